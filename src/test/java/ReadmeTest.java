import java.io.IOException;
import java.lang.reflect.InvocationTargetException;
import java.lang.reflect.Method;
import java.nio.file.Files;
import java.nio.file.Path;
import java.util.NoSuchElementException;
import java.util.TreeSet;
import java.util.regex.Matcher;
import java.util.regex.Pattern;

/** Makes the calls that README.md shows, in their order, and holds them against the answers that it tells. */
public final class ReadmeTest {
    private static final Pattern CALL = Pattern.compile("x\\.([a-z]+)\\(([^)]*)\\); +// (-?\\d+|true|false|throws)(:.*)?");

    private final TreeSet<String> called = new TreeSet<>();
    private StayHouse x;
    private String text = "";
    private String block = "";
    private boolean helper;

    public static void main(String[] args) throws IOException, IllegalAccessException {
        ReadmeTest test = new ReadmeTest();
        for (String line : Files.readAllLines(Path.of("README.md"))) {
            test.read(line);
        }
        test.everyCall();
        Check.end();
    }

    private void read(String line) throws IllegalAccessException {
        if (line.startsWith("```")) {
            block = block.isEmpty() ? line.substring(3) : "";
            helper = false;
        } else if (block.equals("text")) {
            text = line;
        } else if (block.equals("java")) {
            helper = helper || line.startsWith("static ");
            if (!helper) {
                make(line);
            }
        }
    }

    private void make(String line) throws IllegalAccessException {
        Matcher call = CALL.matcher(line);
        if (line.equals("StayHouse x = new StayHouse();")) {
            x = new StayHouse();
        } else if (line.startsWith("feed(x, text);")) {
            Check.feed(x, text);
        } else if (call.matches()) {
            called.add(call.group(1));
            String got = answer(call.group(1), call.group(2));
            if (!got.equals(call.group(3))) {
                System.out.println(line + " answered " + got);
            }
            Check.due(line, got.equals(call.group(3)), true);
        } else {
            Check.due("a line that is no call: " + line, false, true);
        }
    }

    private String answer(String name, String listed) throws IllegalAccessException {
        String[] numbers = listed.isEmpty() ? new String[0] : listed.split(", ");
        Object[] given = new Object[numbers.length];
        for (int i = 0; i < given.length; i++) {
            given[i] = Integer.decode(numbers[i]);
        }
        for (Method m : StayHouse.class.getMethods()) {
            if (m.getName().equals(name)) {
                try {
                    return String.valueOf(m.invoke(x, given));
                } catch (InvocationTargetException e) {
                    return e.getCause() instanceof NoSuchElementException ? "throws" : e.getCause().toString();
                }
            }
        }
        return "no such call";
    }

    /** Each call of the face is shown at least once. */
    private void everyCall() {
        for (Method m : StayHouse.class.getDeclaredMethods()) {
            if (java.lang.reflect.Modifier.isPublic(m.getModifiers())) {
                Check.due("README shows " + m.getName(), called.contains(m.getName()), true);
            }
        }
    }
}
