import java.util.ArrayList;
import java.util.Arrays;
import java.util.List;
import java.util.function.ToIntFunction;

/**
 * What the document says of several calls together. After each call all reading calls are asked,
 * with the least and the greatest arguments and one beyond, and compared with those of the Model.
 */
public final class StateTests extends TestCase {
    /** A call that both NestedCodes and the Model can answer. */
    private static final class Step {
        final String name;
        final ToIntFunction<NestedCodes> codes;
        final ToIntFunction<Model> model;

        Step(String name, ToIntFunction<NestedCodes> codes, ToIntFunction<Model> model) {
            this.name = name;
            this.codes = codes;
            this.model = model;
        }
    }

    private static final Step UNDO = new Step("undo()", x -> x.undo(), m -> m.undo());
    private static final Step CASCADE =
        new Step("sendCascade()", x -> x.sendCascade(), m -> m.sendCascade());
    private static final Step CLEAR =
        new Step("clearGenerators()", x -> x.clearGenerators(), m -> m.clearGenerators());

    private final List<Step> questions = new ArrayList<>();

    public static void main(String[] args) {
        StateTests tests = new StateTests();
        tests.collectQuestions();
        tests.eachChange();
        tests.twoChanges();
        tests.manyChanges();
        tests.cascades();
        tests.refusedCalls();
        tests.generatorCalls();
        tests.questionsThemselves();
        tests.check.finish();
    }

    // ---- the calls

    private static Step setOuter(int n, int k) {
        return new Step("setOuter(" + n + ", " + k + ")", x -> x.setOuter(n, k), m -> m.setOuter(n, k));
    }

    private static Step generator(int generator) {
        return new Step("generator(" + generator + ")",
            x -> x.generator(generator), m -> m.generator(generator));
    }

    private static Step setInner(int b) {
        return new Step("setInner(" + b + ")", x -> x.setInner(b), m -> m.setInner(b));
    }

    /** The inner code with these generators: in six calls, of which the last is the change. */
    private static Step inner(int b, int... generators) {
        return new Step("the inner code " + b + ", " + Arrays.toString(generators), x -> {
            x.clearGenerators();
            for (int generator : generators) {
                x.generator(generator);
            }
            return x.setInner(b);
        }, m -> {
            m.clearGenerators();
            for (int generator : generators) {
                m.generator(generator);
            }
            return m.setInner(b);
        });
    }

    private static Step send(int message) {
        return new Step("send(" + message + ")", x -> x.send(message), m -> m.send(message));
    }

    private static Step flip(int block, int mask) {
        return new Step("flip(" + block + ", " + mask + ")", x -> x.flip(block, mask), m -> m.flip(block, mask));
    }

    private static Step lose(int block, int lost) {
        return new Step("lose(" + block + ", " + lost + ")", x -> x.lose(block, lost), m -> m.lose(block, lost));
    }

    private static Step burst(int place, int length) {
        return new Step("burst(" + place + ", " + length + ")",
            x -> x.burst(place, length), m -> m.burst(place, length));
    }

    private void ask(String name, ToIntFunction<NestedCodes> codes, ToIntFunction<Model> model) {
        questions.add(new Step(name, codes, model));
    }

    private void collectQuestions() {
        for (int i = -1; i <= 9; i++) {
            int what = i;
            ask("count(" + what + ")", x -> x.count(what), m -> m.count(what));
        }
        for (int i = 1; i <= 15; i = 2 * i + 1) {
            int symbol = i;
            ask("wordOf(" + symbol + ")", x -> x.wordOf(symbol), m -> m.wordOf(symbol));
        }
        ask("product(15, 9)", x -> x.product(15, 9), m -> m.product(15, 9));
        for (int i : new int[] {15, 16, 255, 256, 4095, 4096}) {
            int message = i;
            ask("symbolFor(" + message + ", 2)", x -> x.symbolFor(message, 2), m -> m.symbolFor(message, 2));
            ask("symbolFor(" + message + ", 11)", x -> x.symbolFor(message, 11), m -> m.symbolFor(message, 11));
            ask("score(" + message + ")", x -> x.score(message), m -> m.score(message));
        }
        ask("sent()", x -> x.sent(), m -> m.sent());
        for (int i = 0; i <= 12; i++) {
            askOfBlock(i);
        }
        askOfDecoding();
        check.that("three rounds of questions leave some of the 512 calls", 3 * questions.size() <= 490);
    }

    private void askOfBlock(int block) {
        ask("received(" + block + ")", x -> x.received(block), m -> m.received(block));
        for (int i = 0; i <= 4; i++) {
            int what = i;
            ask("block(" + block + ", " + what + ")", x -> x.block(block, what), m -> m.block(block, what));
        }
        ask("blockAt(" + block + ")", x -> x.blockAt(block), m -> m.blockAt(block));
        ask("strength(" + block + ")", x -> x.strength(block), m -> m.strength(block));
        ask("trial(" + block + ")", x -> x.trial(block), m -> m.trial(block));
    }

    private void askOfDecoding() {
        ask("lawful()", x -> x.lawful(), m -> m.lawful());
        ask("decode()", x -> x.decode(), m -> m.decode());
        ask("decidingTrial()", x -> x.decidingTrial(), m -> m.decidingTrial());
        ask("margin()", x -> x.margin(), m -> m.margin());
        ask("wastedTrials()", x -> x.wastedTrials(), m -> m.wastedTrials());
        ask("isGuaranteed()", x -> x.isGuaranteed(), m -> m.isGuaranteed());
        ask("fragileBits()", x -> x.fragileBits(), m -> m.fragileBits());
        ask("fragileBlocks()", x -> x.fragileBlocks(), m -> m.fragileBlocks());
        ask("nearest(0)", x -> x.nearest(0), m -> m.nearest(0));
        ask("nearest(1)", x -> x.nearest(1), m -> m.nearest(1));
    }

    // ---- the starts

    private static final Step[] NEW = {};

    /** Decoding succeeds at trial 0; three states. */
    private static final Step[] READY = {send(291), flip(4, 1), lose(2, 1)};

    /** Dimension 2, with a wrong block that is more reliable than some right ones. */
    private static final Step[] SHORT = {
        setOuter(6, 2), inner(8, 3, 12, 48, 192), send(77), flip(0, 3), flip(3, 1), lose(5, 1)
    };

    /** The longest codes, a full history, two generators waiting. */
    private static final Step[] LONG = {
        setOuter(12, 3), inner(10, 1023, 31, 341, 819), generator(512), send(4095), burst(95, 25),
        lose(11, 1), lose(0, 1), generator(3), flip(5, 1), flip(1, 31)
    };

    /** Decoding gives 2 where 1 was sent; four generators wait, whose words would not all differ. */
    private static final Step[] OTHER = {
        setOuter(4, 1), inner(5, 3, 5, 9, 17), generator(1), generator(2), generator(4), generator(7),
        send(1), flip(0, 6), flip(1, 6), flip(3, 6)
    };

    /** The shortest codes; all blocks are lost and decoding fails. */
    private static final Step[] LOST = {
        setOuter(3, 1), inner(4, 1, 2, 4, 8), send(5), lose(0, 1), lose(1, 1), lose(2, 1)
    };

    private static final Step[][] STARTS = {NEW, READY, SHORT, LONG, OTHER, LOST};

    /** A change of each kind, and of most kinds one by which little or nothing becomes different. */
    private static final Step[] CHANGES = {
        setOuter(3, 2), setOuter(8, 3), setOuter(12, 1), inner(10, 63, 455, 601, 821),
        inner(7, 49, 82, 100, 120), inner(4, 8, 4, 2, 1), send(0), send(9), flip(0, 1), flip(1, 15),
        lose(0, 1), lose(1, 0), lose(2, 1), burst(0, 1), burst(3, 9), CASCADE
    };

    private static Step[] then(Step[] steps, Step... more) {
        Step[] all = Arrays.copyOf(steps, steps.length + more.length);
        System.arraycopy(more, 0, all, steps.length, more.length);
        return all;
    }

    private static String names(Step... steps) {
        StringBuilder all = new StringBuilder("a new object");
        for (Step step : steps) {
            all.append(", ").append(step.name);
        }
        return all.toString();
    }

    private static NestedCodes made(Step... steps) {
        NestedCodes x = new NestedCodes();
        for (Step step : steps) {
            step.codes.applyAsInt(x);
        }
        return x;
    }

    private static Model modelOf(Step... steps) {
        Model m = new Model();
        for (Step step : steps) {
            step.model.applyAsInt(m);
        }
        return m;
    }

    // ---- comparing

    private int[] answers(NestedCodes x) {
        int[] all = new int[questions.size()];
        for (int i = 0; i < all.length; i++) {
            all[i] = questions.get(i).codes.applyAsInt(x);
        }
        return all;
    }

    private int[] answers(Model m) {
        int[] all = new int[questions.size()];
        for (int i = 0; i < all.length; i++) {
            all[i] = questions.get(i).model.applyAsInt(m);
        }
        return all;
    }

    private void same(String when, int[] got, int[] want) {
        sameBut("", when, got, want);
    }

    /** All answers but that of one question. */
    private void sameBut(String question, String when, int[] got, int[] want) {
        for (int i = 0; i < want.length; i++) {
            String name = questions.get(i).name;
            if (!name.equals(question)) {
                due(when + ": " + name, got[i], want[i]);
            }
        }
    }

    /** The last step's answer, and all answers behind it; also if all was asked before it, too. */
    private void lastStep(Step... steps) {
        Step[] before = Arrays.copyOf(steps, steps.length - 1);
        Step last = steps[steps.length - 1];
        Model m = modelOf(before);
        int want = last.model.applyAsInt(m);
        int[] wanted = answers(m);
        NestedCodes x = made(before);
        due(names(steps), last.codes.applyAsInt(x), want);
        same(names(steps), answers(x), wanted);
        NestedCodes asked = made(before);
        answers(asked);
        due(names(steps) + ", asked before", last.codes.applyAsInt(asked), want);
        same(names(steps) + ", asked before", answers(asked), wanted);
    }

    // ---- changes and undo

    private void eachChange() {
        section("Changes and errors", "each change records codes, received words, lost blocks and the"
            + " sent message before it");
        for (Step[] start : STARTS) {
            int[] before = answers(made(start));
            same(names(start), before, answers(modelOf(start)));
            for (Step change : CHANGES) {
                Step[] changed = then(start, change);
                lastStep(changed);
                boolean refused = change.codes.applyAsInt(made(start)) < 0;
                if (!refused && !isInner(change)) {
                    Step[] undone = then(changed, UNDO);
                    // A full history has dropped its oldest state for this change.
                    sameBut("count(6)", names(undone), answers(made(undone)), before);
                    lastStep(undone);
                }
            }
        }
    }

    /** These empty the row of waiting generators, which undo does not fill again. */
    private static boolean isInner(Step change) {
        return change.name.startsWith("the inner code");
    }

    private void twoChanges() {
        promise(6, "Restores the latest state of the history, which is removed from it.");
        for (Step first : CHANGES) {
            for (Step second : CHANGES) {
                Step[] changed = then(SHORT, first, second);
                lastStep(changed);
                lastStep(then(changed, UNDO));
                lastStep(then(changed, UNDO, UNDO));
                lastStep(then(changed, UNDO, first));
            }
        }
    }

    /** More changes than the history holds, then back as far as it goes, and on from there. */
    private void manyChanges() {
        section("Changes and errors", "A history of at most 6 states is kept");
        Step[] steps = {
            send(2730), flip(7, 64), lose(7, 1), burst(48, 8), CASCADE, lose(7, 0), flip(7, 3), CASCADE,
            UNDO, UNDO, UNDO, UNDO, UNDO, UNDO, UNDO, lose(0, 1), setOuter(4, 3), send(273), flip(3, 1),
            inner(5, 3, 5, 9, 17), send(16), burst(0, 20), UNDO, UNDO, UNDO, UNDO, CASCADE, UNDO, UNDO,
            UNDO, UNDO
        };
        for (int i = 1; i <= steps.length; i++) {
            lastStep(Arrays.copyOf(steps, i));
        }
        // The states before the first two of the eight changes were dropped.
        NestedCodes x = made(Arrays.copyOf(steps, 14));
        due("states", x.count(6), 0);
        due("undo() of none", x.undo(), IMPOSSIBLE);
        due("sent() of the first change", x.sent(), 2730);
        due("received(7) of the second", x.received(7), x.wordOf(x.symbolFor(2730, 7)) ^ 64);
    }

    private void cascades() {
        promise(15, "what was decoded becomes the sent message");
        due("sent() where decoding gives another message", made(then(OTHER, CASCADE)).sent(), 2);
        promise(15, "All this is done in lost blocks, too (by their received words), which stay lost.");
        Step[] steps = then(new Step[0], setOuter(7, 2), send(200), flip(2, 64), flip(3, 1), flip(4, 72), lose(4, 1));
        for (int stage = 1; stage <= 8; stage++) {
            steps = then(steps, CASCADE);
            lastStep(steps);
        }
        // After seven stages each of the seven bits is where it was.
        NestedCodes x = made(Arrays.copyOf(steps, 6 + 7));
        NestedCodes first = made(Arrays.copyOf(steps, 6));
        sameBut("count(6)", "seven stages", answers(x), answers(first));
        due("the lost block is found", x.lose(4, 0), 1);
        first.lose(4, 0);
        due("its word", x.received(4), first.received(4));
    }

    // ---- no changes

    private void refusedCalls() {
        section("Changes and errors", "A call that returns an error changes nothing.");
        for (Step[] start : STARTS) {
            int[] before = answers(made(start));
            int[] undone = answers(made(then(start, UNDO)));
            for (Step call : calls()) {
                int answer = call.codes.applyAsInt(made(start));
                due(names(then(start, call)), answer, call.model.applyAsInt(modelOf(start)));
                if (answer < -1000) {
                    Step[] refused = then(start, call);
                    same(names(refused), answers(made(refused)), before);
                    same(names(then(refused, UNDO)), answers(made(then(refused, UNDO))), undone);
                }
            }
        }
    }

    /** Calls of each method that can be refused, one or more for each of its errors. */
    private static Step[] calls() {
        return new Step[] {
            setOuter(2, 1), setOuter(13, 3), setOuter(8, 0), setOuter(8, 4), setOuter(3, 3),
            generator(0), generator(1024), generator(1), UNDO,
            setInner(3), setInner(11), setInner(4), setInner(5),
            send(-1), send(16), send(256), send(4096),
            flip(-1, 1), flip(12, 1), flip(0, 0), flip(0, 1024), flip(0, 1), flip(2, 1), flip(11, 1),
            lose(-1, 0), lose(12, 1), lose(0, -1), lose(0, 2),
            burst(-1, 1), burst(0, 0), burst(120, 1), burst(0, 121), burst(1, GREATEST), burst(12, 1),
            CASCADE,
            new Step("count(9)", x -> x.count(9), m -> m.count(9)),
            new Step("wordOf(16)", x -> x.wordOf(16), m -> m.wordOf(16)),
            new Step("product(0, 16)", x -> x.product(0, 16), m -> m.product(0, 16)),
            new Step("symbolFor(0, 12)", x -> x.symbolFor(0, 12), m -> m.symbolFor(0, 12)),
            new Step("received(12)", x -> x.received(12), m -> m.received(12)),
            new Step("received(0)", x -> x.received(0), m -> m.received(0)),
            new Step("block(12, 0)", x -> x.block(12, 0), m -> m.block(12, 0)),
            new Step("block(0, 5)", x -> x.block(0, 5), m -> m.block(0, 5)),
            new Step("blockAt(12)", x -> x.blockAt(12), m -> m.blockAt(12)),
            new Step("strength(12)", x -> x.strength(12), m -> m.strength(12)),
            new Step("strength(0)", x -> x.strength(0), m -> m.strength(0)),
            new Step("trial(12)", x -> x.trial(12), m -> m.trial(12)),
            new Step("trial(0)", x -> x.trial(0), m -> m.trial(0)),
            new Step("score(4096)", x -> x.score(4096), m -> m.score(4096)),
            new Step("decode()", x -> x.decode(), m -> m.decode()),
            new Step("decidingTrial()", x -> x.decidingTrial(), m -> m.decidingTrial()),
            new Step("margin()", x -> x.margin(), m -> m.margin()),
            new Step("nearest(2)", x -> x.nearest(2), m -> m.nearest(2)),
            new Step("nearest(1)", x -> x.nearest(1), m -> m.nearest(1))
        };
    }

    private void generatorCalls() {
        promise(3, "(This is no change.)");
        promise(4, "(This is no change.)");
        Step[] row = {generator(1), generator(1023), generator(8), generator(64), generator(2), CLEAR, CLEAR};
        int[] waiting = {1, 2, 3, 4, 4, 0, 0};
        for (Step[] start : STARTS) {
            Step[] cleared = then(start, CLEAR);
            for (int i = 0; i < row.length; i++) {
                Step[] steps = then(cleared, Arrays.copyOf(row, i + 1));
                onlyWaiting(waiting[i], steps, start);
                onlyWaiting(waiting[i], then(steps, UNDO), then(start, UNDO));
            }
        }
    }

    /** So many generators are waiting behind the steps; all else is as behind the other ones. */
    private void onlyWaiting(int waiting, Step[] steps, Step[] others) {
        NestedCodes x = made(steps);
        due(names(steps) + ": count(5)", x.count(5), waiting);
        sameBut("count(5)", names(steps), answers(x), answers(made(others)));
    }

    private void questionsThemselves() {
        section("Changes and errors", "The changes are the calls of setOuter, setInner, send, flip, lose,"
            + " burst and sendCascade");
        for (Step[] start : STARTS) {
            NestedCodes x = made(start);
            int[] first = answers(x);
            same(names(start) + ", asked once more", answers(x), first);
            due("undo() after the questions", x.undo(), made(start).undo());
            same(names(start) + ", asked and undone", answers(x), answers(made(then(start, UNDO))));
        }
    }
}
