import java.io.IOException;
import java.lang.reflect.Constructor;
import java.lang.reflect.Field;
import java.lang.reflect.Method;
import java.lang.reflect.Modifier;
import java.nio.file.Files;
import java.nio.file.Path;
import java.util.ArrayList;
import java.util.Arrays;
import java.util.List;
import java.util.TreeSet;

/** The public face, and those rules of LANGUAGE.md that can be seen from the class and its text. */
public final class FaceTest {
    private static final String[] FACE = {
        "int feed(int,int,int,int,int)", "int town(int)", "int fault()", "int where()", "boolean hold(int,int,int)",
        "boolean ask(int,int,int)", "int choose(int,int)", "int has(int,int,int)", "boolean seed(int)", "int go(int)",
        "boolean again(int)", "int held(int,int)", "long earned(int,int)", "int rest(int)", "int act(int,int)", "long worth(int)",
        "long gain(int)", "int best(int)", "long paid(int,int,int)", "long leavings(int,int,int)", "int kindest(int,int)",
        "long promise(int,int,int)", "long shape(int,int,int)", "int fit(int,int)", "int late(int,int)", "int lures(int,int)",
        "int edge()", "int change(int,int)", "int led(int)", "int size(int)", "int baker(int,int)", "int sort(int,int)", "int trouble()"};

    public static void main(String[] args) throws IOException {
        Check.due("NONE", StayHouse.NONE, -1);
        Check.due("final", Modifier.isFinal(StayHouse.class.getModifiers()), true);
        methods();
        fields();
        nested();
        Path source = Path.of(args.length > 0 ? args[0] : "src/main/java/StayHouse.java");
        Check.due("the source is there", Files.exists(source), true);
        text(Files.readString(source));
        Check.end();
    }

    private static void same(String what, Object got, Object want) {
        if (!got.equals(want)) {
            System.out.println(what + ": " + got + ", due is " + want);
        }
        Check.due(what, got.equals(want), true);
    }

    private static void methods() {
        List<String> seen = new ArrayList<>();
        List<String> names = new ArrayList<>();
        for (Method m : StayHouse.class.getDeclaredMethods()) {
            if (!Modifier.isPrivate(m.getModifiers())) {
                String types = String.join(",", Arrays.stream(m.getParameterTypes()).map(Class::getName).toList());
                seen.add(m.getReturnType().getName() + " " + m.getName() + "(" + types + ")");
                names.add(m.getName());
            }
        }
        same("face", new TreeSet<>(seen), new TreeSet<>(Arrays.asList(FACE)));
        for (Class<?> c : everyClass()) {
            for (Method m : c.getDeclaredMethods()) {
                boolean taken = names.contains(m.getName()) && (c != StayHouse.class || Modifier.isPrivate(m.getModifiers()));
                Check.due("a name of the face elsewhere: " + c.getName() + "." + m.getName(), taken, false);
                Check.due("at most seven parameters: " + m.getName(), m.getParameterCount() <= 7, true);
            }
        }
        Constructor<?>[] made = StayHouse.class.getDeclaredConstructors();
        Check.due("one constructor", made.length, 1);
        Check.due("public, of nothing", Modifier.isPublic(made[0].getModifiers()) && made[0].getParameterCount() == 0, true);
    }

    private static List<Class<?>> everyClass() {
        List<Class<?>> all = new ArrayList<>(Arrays.asList(StayHouse.class.getDeclaredClasses()));
        all.add(StayHouse.class);
        return all;
    }

    private static void fields() {
        for (Class<?> c : everyClass()) {
            int own = 0;
            for (Field f : c.getDeclaredFields()) {
                boolean fixed = Modifier.isStatic(f.getModifiers());
                own += fixed ? 0 : 1;
                Check.due("static is final: " + f.getName(), !fixed || Modifier.isFinal(f.getModifiers()), true);
                if (c == StayHouse.class) {
                    Check.due("private: " + f.getName(), Modifier.isPrivate(f.getModifiers()), !f.getName().equals("NONE"));
                }
            }
            Check.due("some twenty fields at most: " + c.getName(), own <= 20, true);
        }
    }

    private static void nested() {
        Class<?>[] inside = StayHouse.class.getDeclaredClasses();
        Check.due("some twelve classes at most", inside.length <= 12, true);
        for (Class<?> c : inside) {
            Check.due("static: " + c.getName(), Modifier.isStatic(c.getModifiers()), true);
            Check.due("not public: " + c.getName(), Modifier.isPublic(c.getModifiers()) || Modifier.isProtected(c.getModifiers()), false);
        }
    }

    private static void text(String source) {
        String[] never = {"try ", "catch", "finally", "->", "::", "synchronized", "assert ", "Exact", "Object ", "instanceof", "package ",
            "null", "double", "float", "Random", "System.out", "System.nano", "System.current", "Thread", "Integer.M", "Long.M"};
        for (String word : never) {
            Check.due("the source holds " + word, source.contains(word), false);
        }
        List<String> imports = source.lines().filter(l -> l.startsWith("import ")).toList();
        same("imports", imports, List.of("import java.util.Arrays;", "import java.util.NoSuchElementException;"));
        int begun = 0;
        int number = 0;
        for (String line : source.lines().toList()) {
            number++;
            Check.due("signs of line " + number, line.chars().allMatch(c -> c >= 32 && c < 127), true);
            if (line.matches("( {4}| {8})(public |private |final |static )*[A-Za-z\\[\\]]+ [a-zA-Z]+\\(.*\\{")) {
                begun = number;
            }
            if (line.matches("( {4}| {8})\\}")) {
                Check.due("some sixty lines at most up to " + number, number - begun <= 60 || line.startsWith("    }"), true);
            }
        }
    }
}
