import java.nio.file.Files;
import java.nio.file.Path;
import java.util.Arrays;
import java.util.regex.Matcher;
import java.util.regex.Pattern;

/** The calls of the README's examples, in their order on one object, answer what stands there. */
public final class ReadmeTest {
    private static final Pattern CALL = Pattern.compile("keeper\\.(\\w+)\\((.*?)\\); +// ([^:\\s]+)(:.*)?");

    private ReadmeTest() {
    }

    public static void main(String[] args) throws Exception {
        Checks checks = new Checks();
        TextKeeper keeper = new TextKeeper();
        int calls = 0;
        for (String line : Files.readAllLines(Path.of("README.md"))) {
            Matcher call = CALL.matcher(line);
            if (call.matches()) {
                calls++;
                int number = Arrays.asList(Calls.NAMES).indexOf(call.group(1));
                checks.due(line, Calls.answer(keeper, number, arguments(call.group(2))), call.group(3));
            } else {
                checks.due(line + " tells its answer", line.startsWith("keeper."), false);
            }
        }
        checks.due("calls in the README", calls > 0, true);
        checks.finish("ReadmeTest");
    }

    private static int[] arguments(String list) {
        return list.isEmpty() ? new int[0] : Arrays.stream(list.split(", ")).mapToInt(Integer::decode).toArray();
    }
}
