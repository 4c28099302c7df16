/**
 * Boundary cases of the history: the section Changes and errors, and promise 6. Each test names the
 * promise or section and the sentence that it stands for.
 */
public final class HistoryBoundaryTests extends TestCase {
    /** A change of each kind, and of each kind one by which nothing becomes different. */
    private static final String[] CHANGES = {
        "setOuter(3, 1)", "setOuter(8, 3)", "setInner(10)", "setInner(7)", "send(4095)", "send(291)",
        "flip(0, 127)", "flip(7, 1)", "lose(0, 1)", "lose(2, 1)", "lose(2, 0)", "lose(0, 0)",
        "burst(0, 56)", "burst(55, 1)", "sendCascade()"
    };

    public static void main(String[] args) {
        HistoryBoundaryTests tests = new HistoryBoundaryTests();
        tests.emptyHistory();
        tests.eachChange();
        tests.nothingDifferent();
        tests.fullHistory();
        tests.fullHistoryOfEachChange();
        tests.refusedChanges();
        tests.undoOfCodes();
        tests.undoOfWords();
        tests.undoOfLostBlocks();
        tests.undoOfSentMessage();
        tests.undoLeavesGenerators();
        tests.changesAfterUndo();
        tests.questions();
        tests.lastCall();
        tests.otherObjects();
        tests.check.finish();
    }

    /** The start of each change: decoding succeeds, 291 was sent, the block 2 is lost. */
    private static NestedCodes ready() {
        NestedCodes x = new NestedCodes();
        x.send(291);
        x.flip(4, 1);
        x.lose(2, 1);
        return x;
    }

    private static NestedCodes readyWithFullHistory() {
        NestedCodes x = new NestedCodes();
        x.burst(0, 56);
        x.setOuter(12, 1);
        x.send(7);
        x.setOuter(8, 3);
        x.send(291);
        x.flip(4, 1);
        x.lose(2, 1);
        return x;
    }

    private static int change(NestedCodes x, int number) {
        switch (number) {
            case 0:
                return x.setOuter(3, 1);
            case 1:
                return x.setOuter(8, 3);
            case 2:
                return generate(x, 10, 1023, 31, 341, 819);
            case 3:
                return generate(x, 7, 49, 82, 100, 120);
            case 4:
                return x.send(4095);
            case 5:
                return x.send(291);
            case 6:
                return x.flip(0, 127);
            case 7:
                return x.flip(7, 1);
            case 8:
                return x.lose(0, 1);
            case 9:
                return x.lose(2, 1);
            case 10:
                return x.lose(2, 0);
            case 11:
                return x.lose(0, 0);
            case 12:
                return x.burst(0, 56);
            case 13:
                return x.burst(55, 1);
            default:
                return x.sendCascade();
        }
    }

    private static int generate(NestedCodes x, int length, int... generators) {
        for (int generator : generators) {
            x.generator(generator);
        }
        return x.setInner(length);
    }

    // ---- Promise 6

    private void emptyHistory() {
        promise(6, "NOT_POSSIBLE if it is empty");
        refused(() -> new NestedCodes(), "undo() of a new object", IMPOSSIBLE, x -> x.undo());
        refused(() -> {
            NestedCodes x = readyWithFullHistory();
            for (int i = 0; i < 6; i++) {
                x.undo();
            }
            return x;
        }, "undo() after six", IMPOSSIBLE, x -> x.undo());
        refused(() -> {
            NestedCodes x = new NestedCodes();
            x.setOuter(2, 1);
            x.flip(0, 0);
            x.setInner(4);
            x.generator(1);
            return x;
        }, "undo() of what was no change", IMPOSSIBLE, x -> x.undo());
        promise(6, "Returns the number of states that are left in the history");
        NestedCodes y = new NestedCodes();
        y.send(1);
        due("undo() of the only one", y.undo(), 0);
        due("undo() once more", y.undo(), IMPOSSIBLE);
        NestedCodes z = readyWithFullHistory();
        for (int left = 5; left >= 0; left--) {
            due("undo() of a full history", z.undo(), left);
            due("states", z.count(6), left);
        }
        due("undo() of none", z.undo(), IMPOSSIBLE);
    }

    private void eachChange() {
        section("Changes and errors", "The changes are the calls of setOuter, setInner, send, flip, lose,"
            + " burst and sendCascade that return no error");
        for (int i = 0; i < CHANGES.length; i++) {
            NestedCodes x = ready();
            String before = view(x);
            due(CHANGES[i] + " is no error", change(x, i) >= 0 ? 1 : 0, 1);
            due("states after " + CHANGES[i], x.count(6), 4);
            due("undo() of " + CHANGES[i], x.undo(), 3);
            check.that("undo() of " + CHANGES[i] + " brings back what was", view(x).equals(before));
            NestedCodes fresh = new NestedCodes();
            String first = view(fresh);
            change(fresh, i);
            due("states after " + CHANGES[i] + " alone", fresh.count(6), 1);
            due("undo() of " + CHANGES[i] + " alone", fresh.undo(), 0);
            check.that("undo() of " + CHANGES[i] + " alone", view(fresh).equals(first));
        }
    }

    private void nothingDifferent() {
        section("Changes and errors", "(also if nothing becomes different)");
        NestedCodes x = new NestedCodes();
        String before = view(x);
        due("the same outer code", x.setOuter(8, 3), 83);
        due("the same inner code", generate(x, 7, 49, 82, 100, 120), 3);
        due("the same message", x.send(0), 0);
        due("a block that is not lost", x.lose(0, 0), 0);
        due("no wrong bits", x.sendCascade(), 0);
        check.that("nothing is different", view(x).equals(before));
        due("states", x.count(6), 5);
        NestedCodes y = new NestedCodes();
        y.lose(0, 1);
        due("a block that is lost", y.lose(0, 1), 1);
        due("states", y.count(6), 2);
        due("undo()", y.undo(), 1);
        due("it is lost still", y.received(0), NONE);
        due("undo()", y.undo(), 0);
        due("it is not lost", y.received(0), 0);
    }

    // ---- Changes and errors: 6 states

    private void fullHistory() {
        section("Changes and errors", "A history of at most 6 states is kept");
        section("Changes and errors", "if there are 7 states then, the oldest one is dropped");
        for (int changes = 1; changes <= 30; changes++) {
            NestedCodes x = new NestedCodes();
            for (int message = 1; message <= changes; message++) {
                x.send(message);
            }
            int states = Math.min(changes, 6);
            due("states after " + changes, x.count(6), states);
            for (int i = 1; i <= states; i++) {
                due("undo() " + i + " after " + changes, x.undo(), states - i);
                due("sent() then", x.sent(), changes - i);
            }
            due("undo() of none after " + changes, x.undo(), IMPOSSIBLE);
            due("sent() of the oldest after " + changes, x.sent(), changes - states);
        }
    }

    private void fullHistoryOfEachChange() {
        section("Changes and errors", "if there are 7 states then, the oldest one is dropped");
        for (int i = 0; i < CHANGES.length; i++) {
            NestedCodes x = readyWithFullHistory();
            NestedCodes expected = readyWithFullHistory();
            due("states before " + CHANGES[i], x.count(6), 6);
            due(CHANGES[i] + " is no error", change(x, i) >= 0 ? 1 : 0, 1);
            due("states after " + CHANGES[i], x.count(6), 6);
            for (int left = 5; left >= 0; left--) {
                due("undo()", x.undo(), left);
                check.that(CHANGES[i] + ", undone to " + left, view(x).equals(view(expected)));
                expected.undo();
            }
            due("undo() of what was dropped", x.undo(), IMPOSSIBLE);
            check.that("the oldest state of all is not back", !view(x).equals(view(expected)));
        }
    }

    private void refusedChanges() {
        section("Changes and errors", "A call that returns an error changes nothing.");
        Start[] starts = {NestedCodes::new, HistoryBoundaryTests::readyWithFullHistory, TestCase::used};
        for (Start start : starts) {
            refused(start, "setOuter(13, 1)", INVALID, x -> x.setOuter(13, 1));
            refused(start, "setInner(3)", INVALID, x -> x.setInner(3));
            refused(start, "setInner(4)", IMPOSSIBLE, x -> x.setInner(4));
            refused(start, "send(4096)", INVALID, x -> x.send(4096));
            refused(start, "flip(0, 0)", INVALID, x -> x.flip(0, 0));
            refused(start, "lose(8, 1)", INVALID, x -> x.lose(8, 1));
            refused(start, "burst(0, 57)", INVALID, x -> x.burst(0, 57));
            refused(start, "generator(0)", INVALID, x -> x.generator(0));
        }
        refused(HistoryBoundaryTests::readyWithFullHistory, "flip(2, 1)", IMPOSSIBLE, x -> x.flip(2, 1));
        refused(() -> lost(readyWithFullHistory()), "sendCascade()", IMPOSSIBLE, x -> x.sendCascade());
    }

    // ---- what a state holds

    private void undoOfCodes() {
        section("Changes and errors", "each change records codes");
        NestedCodes x = new NestedCodes();
        x.setOuter(12, 1);
        generate(x, 10, 1023, 31, 341, 819);
        x.setOuter(3, 2);
        generate(x, 4, 1, 2, 4, 8);
        x.undo();
        due("b", x.count(3), 10);
        due("d", x.count(4), 4);
        due("wordOf(15)", x.wordOf(15), 390);
        due("flip of the highest bit", x.flip(2, 512), 1);
        x.undo();
        x.undo();
        due("n", x.count(0), 12);
        due("k", x.count(1), 1);
        due("D", x.count(2), 12);
        due("block 11 is there", x.received(11), 0);
        due("message 16 is not", x.score(16), INVALID);
        x.undo();
        due("d", x.count(4), 3);
        due("wordOf(15)", x.wordOf(15), 127);
        due("a mask of more bits", x.flip(0, 128), INVALID);
        x.undo();
        due("n", x.count(0), 8);
        due("k", x.count(1), 3);
        due("block 8 is not there", x.received(8), INVALID);
        due("message 4095 is", x.score(4095) != INVALID ? 1 : 0, 1);
    }

    private void undoOfWords() {
        section("Changes and errors", "each change records codes, received words");
        NestedCodes x = wide(12, 3);
        x.burst(0, 120);
        x.setOuter(3, 1);
        x.undo();
        for (int block = 0; block < 12; block++) {
            due("received(" + block + ")", x.received(block), 1023);
        }
        x.undo();
        for (int block = 0; block < 12; block++) {
            due("received(" + block + ")", x.received(block), 0);
        }
        x.lose(11, 1);
        x.burst(119, 1);
        x.lose(11, 0);
        due("received(11)", x.received(11), 512);
        x.undo();
        x.undo();
        x.lose(11, 0);
        due("the word of a lost block, undone", x.received(11), 0);
        due("its gap", x.block(11, 1), 0);
    }

    private void undoOfLostBlocks() {
        section("Changes and errors", "received words, lost blocks and the sent message before it");
        NestedCodes x = lost(new NestedCodes());
        due("lost", x.count(7), 8);
        x.send(4095);
        due("not lost", x.count(7), 0);
        x.undo();
        due("lost again", x.count(7), 8);
        for (int left = 7; left >= 3; left--) {
            x.undo();
            due("lost", x.count(7), left);
            due("the block that is back", x.received(left), 0);
            due("the one before it", x.received(left - 1), NONE);
        }
        due("no more states", x.undo(), IMPOSSIBLE);
        due("three stay lost", x.count(7), 3);
    }

    private void undoOfSentMessage() {
        section("Changes and errors", "the sent message before it");
        NestedCodes x = new NestedCodes();
        x.burst(0, 56);
        x.sendCascade();
        due("sent() after sendCascade", x.sent(), 15);
        x.undo();
        due("sent()", x.sent(), 0);
        due("wrong bits", x.count(8), 56);
        x.send(4095);
        x.setOuter(3, 1);
        x.undo();
        due("sent(), the greatest", x.sent(), 4095);
        generate(x, 4, 1, 2, 4, 8);
        due("sent() after setInner", x.sent(), 0);
        x.undo();
        due("sent(), the greatest", x.sent(), 4095);
        due("no wrong bits", x.count(8), 0);
    }

    private void undoLeavesGenerators() {
        section("Changes and errors", "(not the waiting generators)");
        NestedCodes x = new NestedCodes();
        x.send(1);
        for (int i = 1; i <= 4; i++) {
            x.generator(1 << i);
        }
        x.undo();
        due("a full row stays full", x.count(5), 4);
        x.setInner(10);
        due("the row is empty", x.count(5), 0);
        x.undo();
        due("an empty row stays empty", x.count(5), 0);
        x.send(1);
        x.generator(8);
        x.send(2);
        x.clearGenerators();
        x.undo();
        due("a row that was cleared stays so", x.count(5), 0);
        x.generator(512);
        x.generator(1);
        x.undo();
        x.generator(2);
        x.generator(4);
        due("no generator is lost or changed", x.setInner(10) * 10000 + x.wordOf(1), 10512);
    }

    private void changesAfterUndo() {
        promise(6, "Restores the latest state of the history, which is removed from it.");
        NestedCodes x = new NestedCodes();
        for (int message = 1; message <= 8; message++) {
            x.send(message);
        }
        x.undo();
        x.undo();
        due("states", x.count(6), 4);
        x.send(100);
        x.send(101);
        due("full again", x.count(6), 6);
        int[] sent = {100, 6, 5, 4, 3, 2};
        for (int message : sent) {
            x.undo();
            due("sent()", x.sent(), message);
        }
        due("the two that were dropped", x.undo(), IMPOSSIBLE);
        x.send(200);
        x.send(201);
        x.undo();
        due("sent() after the history was empty", x.sent(), 200);
        x.undo();
        due("sent()", x.sent(), 2);
        NestedCodes y = new NestedCodes();
        for (int round = 0; round < 100; round++) {
            y.flip(0, 1);
            y.undo();
        }
        due("states after 100 rounds", y.count(6), 0);
        due("received(0)", y.received(0), 0);
    }

    private void questions() {
        section("Changes and errors", "The changes are the calls of");
        Start[] starts = {NestedCodes::new, HistoryBoundaryTests::readyWithFullHistory, TestCase::undecided};
        for (Start start : starts) {
            NestedCodes x = start.make();
            String before = picture(x);
            x.wordOf(3);
            x.product(3, 3);
            x.symbolFor(3, 2);
            x.block(2, 3);
            x.strength(0);
            x.trial(1);
            x.score(3);
            x.lawful();
            x.decidingTrial();
            x.margin();
            x.wastedTrials();
            x.isGuaranteed();
            x.fragileBits();
            x.fragileBlocks();
            x.nearest(0);
            x.nearest(1);
            check.that("questions are no changes", picture(x).equals(before));
        }
    }

    // ---- What it is

    private void lastCall() {
        section("What it is", "An object is used for at most 512 calls after it has been made");
        NestedCodes x = new NestedCodes();
        for (int call = 1; call <= 510; call++) {
            x.burst(0, 56);
        }
        due("call 511", x.sendCascade(), 0);
        due("call 512", x.count(6), 6);
        NestedCodes y = new NestedCodes();
        for (int call = 1; call <= 511; call++) {
            y.send(call);
        }
        due("call 512", y.decode(), 511);
    }

    private void otherObjects() {
        promise(1, "Creates both codes with their initial values");
        NestedCodes x = new NestedCodes();
        NestedCodes y = lost(wide(12, 1));
        y.generator(1);
        due("n beside another object", x.count(0), 8);
        due("d beside another object", x.count(4), 3);
        due("waiting beside another object", x.count(5), 0);
        due("states beside another object", x.count(6), 0);
        due("lost blocks beside another object", x.count(7), 0);
        due("the codes of one made later", new NestedCodes().wordOf(15), 127);
    }
}
