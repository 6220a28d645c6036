import java.lang.reflect.InvocationTargetException;
import java.lang.reflect.Method;
import java.lang.reflect.Modifier;
import java.nio.file.Files;
import java.nio.file.Path;
import java.util.Set;
import java.util.TreeSet;
import java.util.regex.Matcher;
import java.util.regex.Pattern;

/** What README.md says a call answers is what it answers, and it shows each call of the face. */
public final class ReadmeTest {
    private static final Path PAGE = Path.of("README.md");
    private static final Pattern NEW = Pattern.compile("TideGates gates = new TideGates\\(\\);");
    private static final Pattern CHANNEL = Pattern.compile("\\s*(?:String channel = |\\+ )\"([^\"]*)\";?");
    private static final Pattern CALL = Pattern.compile(
            "(?:gates\\.(\\w+)\\(([-0-9, ]*)\\)|tell\\(gates, (channel|\"([^\"]*)\")\\)); +// (?:= |throws )(-?\\w+)(?:$|: .*)");

    private final Check check = new Check("ReadmeTest");
    private final Set<String> shown = new TreeSet<>();
    private final StringBuilder channel = new StringBuilder();
    private TideGates gates = new TideGates();

    public static void main(String[] args) throws Exception {
        ReadmeTest test = new ReadmeTest();
        for (String line : Files.readAllLines(PAGE)) {
            test.read(line);
        }
        test.allShown();
        test.check.end();
    }

    private void read(String line) throws Exception {
        Matcher text = CHANNEL.matcher(line);
        Matcher call = CALL.matcher(line);
        if (NEW.matcher(line).matches()) {
            gates = new TideGates();
        } else if (text.matches()) {
            channel.append(text.group(1));
        } else if (call.matches()) {
            String got = outcome(call);
            check.isTrue(line + " answered " + got, got.equals(call.group(5)));
        } else {
            check.isTrue("not understood: " + line, !line.contains("; ") || !line.contains("  // "));
        }
    }

    private String outcome(Matcher call) throws Exception {
        if (call.group(1) == null) {
            String text = call.group(4) == null ? channel.toString() : call.group(4);
            return Check.outcome(() -> Texts.tell(gates, text));
        }
        shown.add(call.group(1));
        return invoked(call.group(1), call.group(2));
    }

    private String invoked(String name, String written) throws Exception {
        String[] parts = written.isEmpty() ? new String[0] : written.split(", ");
        Object[] numbers = new Object[parts.length];
        Class<?>[] types = new Class<?>[parts.length];
        for (int i = 0; i < parts.length; i++) {
            numbers[i] = Integer.valueOf(parts[i]);
            types[i] = int.class;
        }
        try {
            return TideGates.class.getMethod(name, types).invoke(gates, numbers).toString();
        } catch (InvocationTargetException e) {
            return e.getCause().getClass().getSimpleName();
        }
    }

    private void allShown() {
        for (Method method : TideGates.class.getDeclaredMethods()) {
            if (Modifier.isPublic(method.getModifiers())) {
                check.isTrue("README.md shows " + method.getName(), shown.contains(method.getName()));
            }
        }
    }
}
