import java.io.IOException;
import java.lang.management.ManagementFactory;
import java.lang.reflect.Constructor;
import java.lang.reflect.Field;
import java.lang.reflect.Method;
import java.lang.reflect.Modifier;
import java.nio.file.Files;
import java.nio.file.Path;
import java.util.Set;
import java.util.TreeSet;

/** The public face, what of LANGUAGE.md a program can check, and the room that calls take. */
public final class FaceTests {
    private static final String[] METHODS = {
        "setOuter(int,int)", "generator(int)", "clearGenerators()", "setInner(int)", "undo()",
        "count(int)", "wordOf(int)", "product(int,int)", "symbolFor(int,int)", "send(int)",
        "flip(int,int)", "lose(int,int)", "burst(int,int)", "sendCascade()", "received(int)",
        "sent()", "block(int,int)", "blockAt(int)", "strength(int)", "trial(int)", "score(int)",
        "lawful()", "decode()", "decidingTrial()", "margin()", "wastedTrials()", "isGuaranteed()",
        "fragileBits()", "fragileBlocks()", "nearest(int)"
    };
    private static final String[] CONSTANTS = {
        "INVALID_ARGUMENT", "LIMIT_REACHED", "NOT_FOUND", "NOT_POSSIBLE"
    };
    private static final String[] FORBIDDEN = {
        "throw", "throws", "try", "catch", "finally", "synchronized", "assert", "import",
        "package", "native", "volatile", "transient", "protected", "System", "Thread", "Object"
    };

    private static final Check CHECK = new Check();

    public static void main(String[] args) throws IOException {
        publicFace();
        membersInside();
        sourceText();
        room();
        CHECK.finish();
    }

    private static void publicFace() {
        Set<String> methods = new TreeSet<>();
        for (Method method : NestedCodes.class.getDeclaredMethods()) {
            if (!Modifier.isPrivate(method.getModifiers())) {
                String text = method.toString();
                methods.add(text.substring(text.indexOf("NestedCodes.") + 12));
                CHECK.that(text + " is an instance's and answers an int",
                    method.getReturnType() == int.class && !Modifier.isStatic(method.getModifiers()));
            }
        }
        CHECK.that("the methods are " + methods, methods.equals(Set.of(METHODS)));
        Set<String> constants = new TreeSet<>();
        for (Field field : NestedCodes.class.getDeclaredFields()) {
            if (!Modifier.isPrivate(field.getModifiers())) {
                constants.add(field.getName());
                CHECK.due(field + "'s modifiers", field.getModifiers(),
                    Modifier.PUBLIC | Modifier.STATIC | Modifier.FINAL);
            }
            if (Modifier.isStatic(field.getModifiers())) {
                CHECK.that(field + " is final", Modifier.isFinal(field.getModifiers()));
            }
        }
        CHECK.that("the constants are " + constants, constants.equals(Set.of(CONSTANTS)));
        Constructor<?>[] constructors = NestedCodes.class.getDeclaredConstructors();
        CHECK.due("constructors", constructors.length, 1);
        CHECK.due("the constructor's modifiers", constructors[0].getModifiers(), Modifier.PUBLIC);
        CHECK.due("the constructor's parameters", constructors[0].getParameterCount(), 0);
        CHECK.due("the class's modifiers", NestedCodes.class.getModifiers(),
            Modifier.PUBLIC | Modifier.FINAL);
    }

    private static void membersInside() {
        Set<String> publicNames = new TreeSet<>();
        for (String method : METHODS) {
            publicNames.add(method.substring(0, method.indexOf('(')));
        }
        checkPrivateNames(NestedCodes.class, publicNames);
        Class<?>[] inside = NestedCodes.class.getDeclaredClasses();
        CHECK.that("at most twelve classes", inside.length < 12);
        for (Class<?> one : inside) {
            CHECK.that(one + " is static", Modifier.isStatic(one.getModifiers()));
            CHECK.that(one + " is not public", !Modifier.isPublic(one.getModifiers()));
            checkPrivateNames(one, publicNames);
        }
    }

    private static void checkPrivateNames(Class<?> one, Set<String> publicNames) {
        for (Method method : one.getDeclaredMethods()) {
            CHECK.that(method + " bears a name of its own",
                Modifier.isPublic(method.getModifiers()) || !publicNames.contains(method.getName()));
            CHECK.that(method + " has at most seven parameters", method.getParameterCount() <= 7);
        }
        int fields = 0;
        for (Field field : one.getDeclaredFields()) {
            if (!Modifier.isStatic(field.getModifiers())) {
                fields++;
            }
        }
        CHECK.that(one + " has at most twenty fields", fields <= 20);
    }

    private static void sourceText() throws IOException {
        String source = Files.readString(Path.of("src/main/java/NestedCodes.java"));
        String code = source.replaceAll("(?s)/\\*.*?\\*/", " ").replaceAll("//[^\n]*", " ");
        for (String word : FORBIDDEN) {
            CHECK.that("the source has no " + word, !code.matches("(?s).*\\b" + word + "\\b.*"));
        }
        CHECK.that("no lambda", !code.contains("->"));
        CHECK.that("no method reference", !code.contains("::"));
        CHECK.that("no annotation", !code.contains("@"));
        CHECK.that("no division but by a constant", !code.matches("(?s).*[/%]=?\\s*[^0-9\\s].*"));
    }

    /** Constructors may make rows; calls make nothing. */
    private static void room() {
        com.sun.management.ThreadMXBean threads =
            (com.sun.management.ThreadMXBean) ManagementFactory.getThreadMXBean();
        long thread = Thread.currentThread().getId();
        for (int i = 0; i < 20; i++) {
            callAll(new NestedCodes(), 3);
        }
        // Three rounds are some 450 of the 512 calls that an object is used for.
        NestedCodes codes = new NestedCodes();
        long before = threads.getThreadAllocatedBytes(thread);
        callAll(codes, 3);
        long calls = threads.getThreadAllocatedBytes(thread) - before;
        CHECK.that("three rounds of calls take " + calls + " bytes", calls < 1000);
        before = threads.getThreadAllocatedBytes(thread);
        new NestedCodes();
        long made = threads.getThreadAllocatedBytes(thread) - before;
        CHECK.that("a new object takes " + made + " bytes", made < 10000);
    }

    private static void callAll(NestedCodes codes, int rounds) {
        for (int round = 0; round < rounds; round++) {
            codes.setOuter(12, 3);
            codes.clearGenerators();
            codes.generator(1023);
            codes.generator(31);
            codes.generator(341);
            codes.generator(819);
            codes.setInner(10);
            codes.send(round * 1297);
            codes.flip(round % 12, 1 + round);
            codes.lose((round + 5) % 12, 1);
            codes.burst(round, 9);
            codes.sendCascade();
            for (int i = 0; i < 12; i++) {
                codes.count(i);
                codes.wordOf(i);
                codes.product(i, i);
                codes.symbolFor(i, i);
                codes.received(i);
                codes.block(i, i % 5);
                codes.blockAt(i);
                codes.strength(i);
                codes.trial(i);
                codes.score(i);
            }
            codes.sent();
            codes.lawful();
            codes.decode();
            codes.decidingTrial();
            codes.margin();
            codes.wastedTrials();
            codes.isGuaranteed();
            codes.fragileBits();
            codes.fragileBlocks();
            codes.nearest(0);
            codes.nearest(1);
            codes.undo();
        }
    }
}
