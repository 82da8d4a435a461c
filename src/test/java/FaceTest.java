import java.lang.reflect.Constructor;
import java.lang.reflect.Field;
import java.lang.reflect.Method;
import java.lang.reflect.Modifier;
import java.nio.file.Files;
import java.nio.file.Path;
import java.util.Arrays;
import java.util.TreeSet;

/** The face is the document's, whole and with nothing beside it; no state is static. */
public final class FaceTest {
    private static final Path DOCUMENT = Path.of("../shared/DOC.md");
    private static final String[] DUE = {
        "public boolean feed(int, int, int, int, int) IllegalStateException",
        "public boolean end(int) IllegalStateException",
        "public int make() IllegalStateException",
        "public int commit(int, int) IllegalStateException",
        "public int fetch(int, int) IllegalStateException",
        "public int out(int) IllegalStateException",
        "public int steps() IllegalStateException",
        "public boolean trim(int, int) IllegalStateException",
        "public boolean dropDocument(int) IllegalStateException",
        "public int about(int, int) IllegalArgumentException IllegalStateException NoSuchElementException",
        "public int revision(int, int, int) IllegalArgumentException IllegalStateException NoSuchElementException",
        "public int pieceByte(int, int, int) IllegalStateException",
        "public boolean damage(int, int, int, int) IllegalStateException",
        "public int verify(int) IllegalStateException",
        "public int common(int, int, int, int) IllegalStateException",
        "public int freeBlocks() IllegalStateException",
        "public boolean cutAfter(int) IllegalStateException",
        "public boolean start()",
        "public boolean isDown()",
        "public TextKeeper()",
        "public static final int NONE",
        "public static final int BAD",
    };

    private FaceTest() {
    }

    public static void main(String[] args) throws Exception {
        Checks checks = new Checks();
        TreeSet<String> got = new TreeSet<>();
        TreeSet<String> names = new TreeSet<>();
        for (Method m : TextKeeper.class.getDeclaredMethods()) {
            if (!Modifier.isPrivate(m.getModifiers())) {
                got.add(told(m));
                names.add(m.getName());
            }
        }
        for (Constructor<?> c : TextKeeper.class.getDeclaredConstructors()) {
            got.add(Modifier.toString(c.getModifiers()) + " TextKeeper(" + list(c.getParameterTypes(), ", ") + ")");
        }
        for (Field f : TextKeeper.class.getDeclaredFields()) {
            if (!Modifier.isPrivate(f.getModifiers())) {
                got.add(Modifier.toString(f.getModifiers()) + " " + f.getType() + " " + f.getName());
            }
        }
        checks.due("the face", got, new TreeSet<>(Arrays.asList(DUE)));
        if (Files.isReadable(DOCUMENT)) {
            checks.due("the face", got, ofDocument(Files.readString(DOCUMENT)));
        }
        checks.due("public and final", Modifier.toString(TextKeeper.class.getModifiers()), "public final");
        checkInside(checks, TextKeeper.class, names);
        for (Class<?> c : TextKeeper.class.getDeclaredClasses()) {
            int m = c.getModifiers();
            checks.due(c + " is static", Modifier.isStatic(m), true);
            checks.due(c + " is inside alone", Modifier.isPublic(m) || Modifier.isProtected(m), false);
            checkInside(checks, c, names);
        }
        checks.finish("FaceTest");
    }

    /** The members in the document's face, told as those of the class are. */
    private static TreeSet<String> ofDocument(String document) {
        TreeSet<String> face = new TreeSet<>();
        for (String line : document.split("\n")) {
            if (line.startsWith("    public ")) {
                String[] headAndThrown = line.trim().replaceAll(" = .*|;", "").split(" throws ");
                String head = headAndThrown[0].replaceAll("(int) [a-z]+(?=[,)])", "$1");
                String[] thrown = headAndThrown.length > 1 ? headAndThrown[1].split(", ") : new String[0];
                Arrays.sort(thrown);
                face.add((head + " " + String.join(" ", thrown)).trim());
            }
        }
        return face;
    }

    private static void checkInside(Checks checks, Class<?> c, TreeSet<String> names) {
        int fields = 0;
        for (Field f : c.getDeclaredFields()) {
            boolean constant = Modifier.isStatic(f.getModifiers());
            fields += constant ? 0 : 1;
            checks.due(f + " is no static state", !constant || Modifier.isFinal(f.getModifiers()), true);
        }
        checks.due(c + " has at most 20 fields", fields <= 20, true);
        for (Method m : c.getDeclaredMethods()) {
            boolean hides = Modifier.isPrivate(m.getModifiers()) && names.contains(m.getName());
            checks.due(m + " bears a public method's name", hides, false);
            checks.due(m + " has at most seven parameters", m.getParameterCount() <= 7, true);
        }
    }

    private static String told(Method m) {
        String thrown = list(m.getExceptionTypes(), " ");
        return Modifier.toString(m.getModifiers()) + " " + m.getReturnType() + " " + m.getName()
            + "(" + list(m.getParameterTypes(), ", ") + ")" + (thrown.isEmpty() ? "" : " " + thrown);
    }

    private static String list(Class<?>[] types, String between) {
        String[] names = new String[types.length];
        for (int i = 0; i < types.length; i++) {
            names[i] = types[i].getSimpleName();
        }
        if (between.equals(" ")) {
            Arrays.sort(names);
        }
        return String.join(between, names);
    }
}
