import java.lang.reflect.Method;
import java.nio.file.Files;
import java.nio.file.Path;
import java.util.Arrays;
import java.util.regex.Matcher;
import java.util.regex.Pattern;

/** The example and the table of README.md against the class, so that the page stays true. */
public final class ReadmeTest {
    private static final Path PAGE = Path.of("README.md");
    private static final Pattern TEXT = Pattern.compile("for \\(char c : \"(.*?)\"\\.toCharArray");
    private static final Pattern CALL = Pattern.compile(
            "^    ledger\\.(\\w+)\\((.*?)\\) +// (throws \\w+|-?[0-9.]+)", Pattern.MULTILINE);
    private static final Pattern CONSTANT = Pattern.compile("\\| `(\\w+)` +\\| (-\\d+) ");

    public static void main(String[] args) throws Exception {
        String page = Files.readString(PAGE);
        exampleAnswersAsItSays(page);
        tableHasTheConstants(page);
        Check.end("ReadmeTest");
    }

    private static void exampleAnswersAsItSays(String page) throws Exception {
        StorageLedger ledger = new StorageLedger();
        Matcher text = TEXT.matcher(page);
        Check.same("the page has a text", text.find(), true);
        Check.type(ledger, text.group(1));
        Matcher call = CALL.matcher(page);
        int calls = 0;
        while (call.find()) {
            Object answer = answer(ledger, call.group(1), call.group(2));
            Check.same(call.group().trim(), answer.toString(), call.group(3).replace(' ', '.'));
            calls++;
        }
        Check.same("calls of the page", calls, 12);
    }

    private static Object answer(StorageLedger ledger, String name, String list) throws Exception {
        Object[] arguments = list.isEmpty() ? new Object[0]
                : Arrays.stream(list.split(", ")).map(Integer::valueOf).toArray();
        Class<?>[] types = new Class<?>[arguments.length];
        Arrays.fill(types, int.class);
        Method method = StorageLedger.class.getMethod(name, types);
        return Check.invoked(method, ledger, arguments);
    }

    private static void tableHasTheConstants(String page) throws Exception {
        Matcher constant = CONSTANT.matcher(page);
        int constants = 0;
        while (constant.find()) {
            int value = StorageLedger.class.getField(constant.group(1)).getInt(null);
            Check.same(constant.group(1), value, Integer.parseInt(constant.group(2)));
            constants++;
        }
        Check.same("constants of the page", constants, StorageLedger.class.getFields().length);
    }
}
