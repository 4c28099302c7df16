import java.util.function.IntSupplier;

/** What the test programs share: the sentence under test, refused calls, and objects to ask. */
abstract class TestCase {
    static final int INVALID = -1001;
    static final int IMPOSSIBLE = -1002;
    static final int LIMIT = -1003;
    static final int NONE = -1004;
    static final int LEAST = Integer.MIN_VALUE;
    static final int GREATEST = Integer.MAX_VALUE;

    /** Makes a new object and brings it into a state, the same each time. */
    interface Start {
        NestedCodes make();
    }

    interface Call {
        int on(NestedCodes x);
    }

    final Check check = new Check();
    private final Document document = new Document();
    private String sentence = "";

    // ---- what is tested

    void promise(int number) {
        sentence = "promise " + number;
    }

    /** Names the promise and the words in it that the next checks stand for. */
    void promise(int number, String quote) {
        quoted("promise " + number, document.promise(number), quote);
    }

    /** Names the section outside the promises and the words in it. */
    void section(String heading, String quote) {
        quoted(heading, heading, quote);
    }

    private void quoted(String name, String heading, String quote) {
        sentence = name + ", '" + quote + "'";
        check.that("the document says in " + sentence, document.says(heading, quote));
    }

    void due(String call, int got, int want) {
        check.due(sentence + ": " + call, got, want);
    }

    // ---- refused calls

    /** A call that must answer with an error and leave everything as it was. */
    void refused(NestedCodes x, String call, int error, IntSupplier made) {
        String before = picture(x);
        due(call, made.getAsInt(), error);
        check.that(sentence + ": " + call + " changes nothing", picture(x).equals(before));
    }

    /** The same with two objects, so that the history and all that is hidden can be compared. */
    void refused(Start start, String call, int error, Call made) {
        due(call, made.on(start.make()), error);
        String behind = story(() -> {
            NestedCodes x = start.make();
            made.on(x);
            return x;
        });
        check.that(sentence + ": " + call + " changes nothing", behind.equals(story(start)));
    }

    /** Refused by a new object (n = 8, k = 3, b = 7) and by a used one with the same codes. */
    void refused(String call, int error, Call made) {
        refused(NestedCodes::new, call + " of a new object", error, made);
        refused(TestCase::used, call + " of a used object", error, made);
    }

    /** Refused by each of the states in which a call of this kind meets a limit of the codes. */
    void refusedAtLimits(String call, int error, Call made) {
        refused(call, error, made);
        refused(() -> lost(wide(12, 3)), call + " with all blocks lost", error, made);
        refused(() -> bare(3, 1), call + " of the least codes", error, made);
    }

    /** What can be seen now. */
    static String picture(NestedCodes x) {
        return x.count(5) + " waiting, " + x.count(6) + " states, " + view(x);
    }

    /** What can be seen of that which undo brings back. */
    static String view(NestedCodes x) {
        StringBuilder all = new StringBuilder();
        for (int what = 0; what <= 8; what++) {
            if (what != 5 && what != 6) {
                all.append(x.count(what)).append(' ');
            }
        }
        for (int i = 0; i < 4; i++) {
            all.append(x.wordOf(1 << i)).append(' ');
        }
        for (int block = 0; block < x.count(0); block++) {
            all.append(x.received(block)).append(' ').append(x.blockAt(block)).append(' ');
        }
        return all.append(x.sent()).append(' ').append(x.decode()).append('\n').toString();
    }

    /** What can be seen now and after each undo; the words of lost blocks; what is waiting. */
    private static String story(Start start) {
        StringBuilder all = new StringBuilder();
        NestedCodes undone = start.make();
        int states = undone.count(6);
        all.append(picture(undone));
        for (int i = 0; i < states; i++) {
            all.append(undone.undo()).append(": ").append(picture(undone));
        }
        NestedCodes found = start.make();
        for (int block = 0; block < found.count(0); block++) {
            all.append(found.lose(block, 0)).append(' ').append(found.received(block)).append(' ');
        }
        NestedCodes generated = start.make();
        for (int i = 0; i < 4; i++) {
            all.append(generated.generator(1 << i)).append(' ');
        }
        all.append(generated.setInner(10)).append(' ');
        for (int i = 0; i < 4; i++) {
            all.append(generated.wordOf(1 << i)).append(' ');
        }
        return all.toString();
    }

    // ---- objects

    static NestedCodes with(int n, int k) {
        NestedCodes x = new NestedCodes();
        x.setOuter(n, k);
        return x;
    }

    /** The inner code with these generators. */
    static NestedCodes with(int n, int k, int b, int... generators) {
        NestedCodes x = with(n, k);
        for (int generator : generators) {
            x.generator(generator);
        }
        x.setInner(b);
        return x;
    }

    /** Each symbol is its own word: b = 4, d = 1. */
    static NestedCodes bare(int n, int k) {
        return with(n, k, 4, 1, 2, 4, 8);
    }

    /** Each bit of a symbol is sent twice: b = 8, d = 2. */
    static NestedCodes doubled(int n, int k) {
        return with(n, k, 8, 3, 12, 48, 192);
    }

    /** The greatest length and distance: b = 10, d = 4. */
    static NestedCodes wide(int n, int k) {
        return with(n, k, 10, 1023, 31, 341, 819);
    }

    /** The six highest of ten bits tell nothing: b = 10, d = 1. */
    static NestedCodes loose(int n, int k) {
        return with(n, k, 10, 1, 2, 4, 8);
    }

    /** The initial codes, a full history, two generators waiting, two blocks lost, wrong bits. */
    static NestedCodes used() {
        NestedCodes x = new NestedCodes();
        x.generator(512);
        x.generator(256);
        x.send(1);
        x.send(291);
        x.flip(0, 3);
        x.flip(6, 64);
        x.lose(5, 1);
        x.burst(33, 4);
        x.lose(2, 1);
        return x;
    }

    static NestedCodes waiting(int... generators) {
        NestedCodes x = used();
        x.clearGenerators();
        for (int generator : generators) {
            x.generator(generator);
        }
        return x;
    }

    /** The same object, with all blocks lost. */
    static NestedCodes lost(NestedCodes x) {
        int blocks = x.count(0);
        for (int block = 0; block < blocks; block++) {
            x.lose(block, 1);
        }
        return x;
    }

    /** Repeated 5, with the blocks 0 and 1 gone wrong and block 3 lost: 4, 7, 5, lost. */
    static NestedCodes undecided() {
        NestedCodes x = bare(4, 1);
        x.send(5);
        x.flip(0, 1);
        x.flip(1, 2);
        x.lose(3, 1);
        return x;
    }
}
