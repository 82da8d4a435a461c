import java.nio.file.Path;
import java.util.Map;
import java.util.Set;
import java.util.TreeSet;

/**
 * The program keeps to ../shared/LANGUAGE.md, as far as its text tells: rules 1 to 6, 8 to 13 or
 * parts of them (FaceTest has the face). It is held to what it needs, which is less than the rules
 * leave: no text, no list, no try, no recursion.
 */
public final class LanguageTest {
    private static final Path PROGRAM = Path.of("src/main/java/TextKeeper.java");
    private static final int MOST_LINES = 60;
    private static final int MOST_OPEN_CALLS = 8;
    private static final int MOST_CLASSES = 12;

    private static final Set<String> RULED_OUT = Set.of(
        "LAMBDA_EXPRESSION", "MEMBER_REFERENCE", "SYNCHRONIZED", "ASSERT", "TRY", "CATCH", "ANNOTATION",
        "SWITCH_EXPRESSION", "YIELD", "BINDING_PATTERN", "GUARDED_PATTERN", "INSTANCE_OF", "STRING_LITERAL",
        "DOUBLE_LITERAL", "FLOAT_LITERAL", "PARAMETERIZED_TYPE", "RECORD", "ENUM", "INTERFACE");
    private static final Set<String> NUMBERS = Set.of("int", "boolean", "byte[]", "void");
    private static final Set<String> LIBRARY = Set.of(
        "java.lang.Integer.bitCount(int)",
        "java.lang.Math.min(int,int)",
        "java.lang.System.arraycopy(java.lang.Object,int,java.lang.Object,int,int)",
        "java.util.Arrays.copyOf(byte[],int)",
        "java.lang.IllegalArgumentException.<init>()",
        "java.lang.IllegalStateException.<init>()",
        "java.util.NoSuchElementException.<init>()");
    private static final Set<String> THROWN = Set.of(
        "new IllegalArgumentException()", "new IllegalStateException()", "new NoSuchElementException()");

    private LanguageTest() {
    }

    public static void main(String[] args) throws Exception {
        Checks checks = new Checks();
        Written program = Written.in(PROGRAM);
        rule1(checks, program);
        rules2To6(checks, program);
        rules8And9(checks, program);
        rules11And12(checks, program);
        checks.finish("LanguageTest");
    }

    private static void rule1(Checks checks, Written program) {
        checks.due("the package line", program.packageLine, "");
        checks.due("the classes of the file", program.topClasses, "[TextKeeper]");
    }

    private static void rules2To6(Checks checks, Written program) {
        TreeSet<String> ruledOut = new TreeSet<>(program.kinds);
        ruledOut.retainAll(RULED_OUT);
        checks.due("what is ruled out", ruledOut, "[]");
        checks.due("types beside numbers and its own", othersThanOwn(program), "[]");
        checks.due("the library", without(program.library, LIBRARY), "[]");
        checks.due("static fields", program.statics, "[final int]");
        checks.due("what is thrown", without(program.thrown, THROWN), "[]");
        checks.due("constructors that throw", program.throwingConstructors, "[]");
    }

    private static TreeSet<String> othersThanOwn(Written program) {
        TreeSet<String> others = without(program.types, NUMBERS);
        for (String own : program.allClasses) {
            others.remove("TextKeeper." + own);
            others.remove("TextKeeper." + own + "[]");
        }
        return others;
    }

    private static void rules8And9(Checks checks, Written program) {
        for (String method : program.calls.keySet()) {
            int depth = program.depthOf(method);
            checks.due(method + " has few calls open at once and no recursion", depth <= MOST_OPEN_CALLS, true);
        }
        checks.due("loops without a condition", program.loopsWithoutCondition, "[]");
    }

    private static void rules11And12(Checks checks, Written program) {
        for (Map.Entry<String, Integer> method : program.lines.entrySet()) {
            checks.due(method.getKey() + " is short", method.getValue() <= MOST_LINES, true);
        }
        checks.due("at most twelve classes", program.allClasses.size() <= MOST_CLASSES, true);
        checks.due("what is made in loops", program.madeInLoops, "[]");
    }

    private static TreeSet<String> without(Set<String> all, Set<String> known) {
        TreeSet<String> rest = new TreeSet<>(all);
        rest.removeAll(known);
        return rest;
    }
}
