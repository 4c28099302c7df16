/** Compares NestedCodes with the plain Model in runs of calls that are the same each time. */
public final class ModelTests {
    private static final int[] ODD = {
        -1, Integer.MIN_VALUE, Integer.MAX_VALUE, -1001, 13, 16, 256, 4096, 1024, 1 << 30, 65536
    };
    private static final int[][] CODES = {
        {4, 1, 2, 4, 8}, {5, 3, 5, 9, 17}, {6, 11, 22, 37, 56}, {7, 49, 82, 100, 120},
        {8, 3, 12, 48, 192}, {8, 15, 51, 85, 150}, {9, 31, 99, 173, 334}, {10, 1023, 31, 341, 819},
        {10, 63, 455, 601, 821}, {10, 1, 2, 4, 8}
    };

    private long seed;
    private final Check check = new Check();
    private NestedCodes codes;
    private Model model;
    private int run;
    private int calls;
    private boolean dear;

    public static void main(String[] args) {
        ModelTests tests = new ModelTests();
        tests.everyProduct();
        tests.everySymbol();
        for (int run = 0; run < 900; run++) {
            tests.aRun(run);
        }
        tests.check.finish();
    }

    private int next(int bound) {
        seed = seed * 6364136223846793005L + 1442695040888963407L;
        return (int) ((seed >>> 33) % bound);
    }

    /** Mostly from low to high - 1, now and then just outside or far away. */
    private int argument(int low, int high) {
        int kind = next(40);
        if (kind == 0) {
            return ODD[next(ODD.length)];
        }
        if (kind == 1) {
            return low - 1;
        }
        if (kind == 2) {
            return high;
        }
        if (kind == 3) {
            return high - 1;
        }
        return low + next(high - low);
    }

    private void due(String call, int got, int want) {
        calls++;
        check.due("run " + run + ", call " + calls + ", " + call + " at " + model, got, want);
    }

    /** New objects of both kinds, which are the same then. */
    private void start() {
        codes = new NestedCodes();
        model = new Model();
        calls = 0;
    }

    private void everyProduct() {
        start();
        for (int a = -1; a <= 16; a++) {
            for (int b = -1; b <= 16; b++) {
                due("product(" + a + ", " + b + ")", codes.product(a, b), model.product(a, b));
            }
        }
    }

    private void everySymbol() {
        start();
        for (int k = 1; k <= 3; k++) {
            model.setOuter(12, k);
            for (int message = -1; message <= model.messages(); message++) {
                // An object answers 512 calls only, so each message has its own.
                codes = new NestedCodes();
                codes.setOuter(12, k);
                for (int block = -1; block <= 12; block++) {
                    due("symbolFor(" + message + ", " + block + ")",
                        codes.symbolFor(message, block), model.symbolFor(message, block));
                }
            }
        }
    }

    private void aRun(int number) {
        run = number;
        seed = 1000003L * number + 17;
        start();
        dear = number % 6 == 0;
        boolean undone = number % 4 < 2;
        // The questions at the end take up to 150 calls, undoing all up to 250.
        int length = dear ? 60 : undone ? 255 : 355;
        // Codewords of dimension 3 take the model long, so most runs keep to 1 and 2.
        if (number % 3 != 0) {
            int n = 3 + next(10);
            int k = 1 + next(2);
            due("setOuter", codes.setOuter(n, k), model.setOuter(n, k));
        } else if (next(2) == 0) {
            int n = 4 + next(9);
            due("setOuter", codes.setOuter(n, 3), model.setOuter(n, 3));
        }
        if (next(3) != 0) {
            newInnerCode();
        }
        while (calls < length) {
            if (next(3) != 0) {
                change();
            } else {
                question();
            }
        }
        if (undone) {
            undoAll();
        } else {
            allQuestions();
        }
        check.that("run " + run + " has at most 512 calls, " + calls, calls <= 512);
    }

    private void undoAll() {
        stateQuestions();
        while (model.count(6) > 0) {
            due("undo()", codes.undo(), model.undo());
            stateQuestions();
        }
        due("undo()", codes.undo(), model.undo());
    }

    private void newInnerCode() {
        due("clearGenerators()", codes.clearGenerators(), model.clearGenerators());
        int[] code = CODES[next(CODES.length)];
        for (int i = 1; i <= 4; i++) {
            due("generator(" + code[i] + ")", codes.generator(code[i]), model.generator(code[i]));
        }
        due("setInner(" + code[0] + ")", codes.setInner(code[0]), model.setInner(code[0]));
    }

    private void change() {
        int x;
        int y;
        int kind = next(100);
        if (kind < 2) {
            x = argument(3, 13);
            y = argument(1, run % 3 == 0 ? 4 : 3);
            due("setOuter(" + x + ", " + y + ")", codes.setOuter(x, y), model.setOuter(x, y));
        } else if (kind < 6) {
            x = next(3) == 0 ? 1 << next(10) : argument(1, 1024);
            due("generator(" + x + ")", codes.generator(x), model.generator(x));
        } else if (kind < 7) {
            due("clearGenerators()", codes.clearGenerators(), model.clearGenerators());
        } else if (kind < 9) {
            x = argument(4, 11);
            due("setInner(" + x + ")", codes.setInner(x), model.setInner(x));
        } else if (kind < 10) {
            newInnerCode();
        } else if (kind < 18) {
            due("undo()", codes.undo(), model.undo());
        } else if (kind < 26) {
            x = argument(0, model.messages());
            due("send(" + x + ")", codes.send(x), model.send(x));
        } else if (kind < 66) {
            x = argument(0, model.blocks());
            y = next(4) == 0 ? argument(1, 1 << model.bits()) : 1 << next(model.bits());
            due("flip(" + x + ", " + y + ")", codes.flip(x, y), model.flip(x, y));
        } else if (kind < 84) {
            x = argument(0, model.blocks());
            y = next(3) == 0 ? argument(0, 2) : 0;
            due("lose(" + x + ", " + y + ")", codes.lose(x, y), model.lose(x, y));
        } else if (kind < 90) {
            int places = model.blocks() * model.bits();
            x = argument(0, places);
            y = next(3) == 0 ? places - x : argument(1, 12);
            due("burst(" + x + ", " + y + ")", codes.burst(x, y), model.burst(x, y));
        } else {
            due("sendCascade()", codes.sendCascade(), model.sendCascade());
        }
    }

    private void question() {
        int kind = next(22);
        if (kind < 4) {
            int x = argument(0, model.blocks());
            int what = argument(0, 5);
            due("block(" + x + ", " + what + ")", codes.block(x, what), model.block(x, what));
            due("received(" + x + ")", codes.received(x), model.received(x));
            due("blockAt(" + x + ")", codes.blockAt(x), model.blockAt(x));
        } else if (kind < 6) {
            int x = argument(0, 9);
            due("count(" + x + ")", codes.count(x), model.count(x));
        } else if (kind < 7) {
            int x = argument(0, model.blocks());
            due("strength(" + x + ")", codes.strength(x), model.strength(x));
        } else if (kind < 9) {
            int x = argument(0, model.count(2));
            due("trial(" + x + ")", codes.trial(x), model.trial(x));
        } else if (kind < 11) {
            int x = argument(0, model.messages());
            due("score(" + x + ")", codes.score(x), model.score(x));
        } else if (kind < 13) {
            due("decode()", codes.decode(), model.decode());
        } else if (kind < 14) {
            due("decidingTrial()", codes.decidingTrial(), model.decidingTrial());
        } else if (kind < 15) {
            due("margin()", codes.margin(), model.margin());
        } else if (kind < 16) {
            due("wastedTrials()", codes.wastedTrials(), model.wastedTrials());
        } else if (kind < 17) {
            due("isGuaranteed()", codes.isGuaranteed(), model.isGuaranteed());
        } else if (kind < 18) {
            due("lawful()", codes.lawful(), model.lawful());
        } else if (kind < 19) {
            int x = argument(0, 2);
            due("nearest(" + x + ")", codes.nearest(x), model.nearest(x));
        } else if (kind < 20) {
            due("sent()", codes.sent(), model.sent());
            int x = argument(0, 16);
            due("wordOf(" + x + ")", codes.wordOf(x), model.wordOf(x));
        } else if (kind < 21) {
            due("fragileBlocks()", codes.fragileBlocks(), model.fragileBlocks());
        } else if (dear || model.messages() <= 256) {
            due("fragileBits()", codes.fragileBits(), model.fragileBits());
        }
    }

    private void stateQuestions() {
        for (int what = 0; what <= 8; what++) {
            due("count(" + what + ")", codes.count(what), model.count(what));
        }
        for (int i = 0; i < 4; i++) {
            due("wordOf(" + (1 << i) + ")", codes.wordOf(1 << i), model.wordOf(1 << i));
        }
        due("sent()", codes.sent(), model.sent());
        for (int j = 0; j < model.blocks(); j++) {
            due("received(" + j + ")", codes.received(j), model.received(j));
        }
        int last = model.blocks() - 1;
        due("blockAt(0)", codes.blockAt(0), model.blockAt(0));
        due("blockAt(" + last + ")", codes.blockAt(last), model.blockAt(last));
    }

    private void allQuestions() {
        stateQuestions();
        for (int symbol = 0; symbol < 16; symbol++) {
            due("wordOf(" + symbol + ")", codes.wordOf(symbol), model.wordOf(symbol));
        }
        for (int j = 0; j < model.blocks(); j++) {
            due("blockAt(" + j + ")", codes.blockAt(j), model.blockAt(j));
            for (int what = 0; what <= 4; what++) {
                due("block(" + j + ", " + what + ")", codes.block(j, what), model.block(j, what));
            }
            due("strength(" + j + ")", codes.strength(j), model.strength(j));
        }
        for (int s = 0; s < model.count(2); s++) {
            due("trial(" + s + ")", codes.trial(s), model.trial(s));
        }
        due("decode()", codes.decode(), model.decode());
        due("decidingTrial()", codes.decidingTrial(), model.decidingTrial());
        due("margin()", codes.margin(), model.margin());
        due("wastedTrials()", codes.wastedTrials(), model.wastedTrials());
        due("isGuaranteed()", codes.isGuaranteed(), model.isGuaranteed());
        due("lawful()", codes.lawful(), model.lawful());
        due("nearest(0)", codes.nearest(0), model.nearest(0));
        due("nearest(1)", codes.nearest(1), model.nearest(1));
        due("fragileBlocks()", codes.fragileBlocks(), model.fragileBlocks());
        due("fragileBits()", codes.fragileBits(), model.fragileBits());
    }
}
