import java.io.IOException;
import java.lang.reflect.Field;
import java.lang.reflect.Method;
import java.nio.file.Files;
import java.nio.file.Path;
import java.util.Arrays;
import java.util.regex.Matcher;
import java.util.regex.Pattern;

/** README.md's example is true: each call answers what stands beside it. Runs in the project's directory. */
public final class ReadmeTest {
    private static final Pattern CALL = Pattern.compile("ledger\\.(\\w+)\\(([-0-9, ]*)\\);\\s*// ([-\\w]+)(:.*)?");
    private static final Pattern START = Pattern.compile("FadeLedger ledger = new FadeLedger\\(\\);");

    private static final Due due = new Due();

    private ReadmeTest() {
    }

    public static void main(String[] args) throws IOException, ReflectiveOperationException {
        due.part("README.md");
        FadeLedger ledger = null;
        int calls = 0;
        for (String line : Files.readAllLines(Path.of("README.md"))) {
            Matcher call = CALL.matcher(line);
            if (START.matcher(line).matches()) {
                ledger = new FadeLedger();
            } else if (ledger != null && call.matches()) {
                calls++;
                check(ledger, call.group(1), call.group(2), call.group(3));
            } else if (line.startsWith("ledger.")) {
                due.report("no answer can be made out: " + line);
            }
        }
        due.is("the example has calls", calls > 0, true);
        due.end();
    }

    private static void check(FadeLedger ledger, String name, String arguments, String want)
            throws ReflectiveOperationException {
        Object[] values = Arrays.stream(arguments.split(",")).map(String::strip).filter(text -> !text.isEmpty())
                .map(Integer::valueOf).toArray();
        Class<?>[] types = new Class<?>[values.length];
        Arrays.fill(types, int.class);
        Method method = FadeLedger.class.getMethod(name, types);
        String got = String.valueOf(method.invoke(ledger, values));
        if (!got.equals(valueOf(want))) {
            due.report(name + "(" + arguments + ") answered " + got + ", README.md has " + want);
        }
    }

    private static String valueOf(String want) throws ReflectiveOperationException {
        for (Field field : FadeLedger.class.getFields()) {
            if (field.getName().equals(want)) {
                return String.valueOf(field.get(null));
            }
        }
        return want;
    }
}
