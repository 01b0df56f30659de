import java.lang.management.ManagementFactory;
import java.lang.reflect.Constructor;
import java.lang.reflect.Field;
import java.lang.reflect.Method;
import java.lang.reflect.Modifier;
import java.nio.file.Files;
import java.nio.file.Path;
import java.util.Arrays;
import java.util.HashMap;
import java.util.Map;
import java.util.Set;
import java.util.TreeSet;
import java.util.regex.Matcher;
import java.util.regex.Pattern;

/** The face of the document, and what of LANGUAGE.md and of the room can be held by a program. */
public final class RulesTest {
    private static final Path SOURCE = Path.of("src/main/java/ParrotHeirs.java");
    private static final String[] FACE = {
        "int feed 1", "int end 1", "int text 0", "int fault 0", "int rule 1", "int parrot 2", "int knows 1",
        "int moult 2", "int turn 2", "int teach 2", "int ear 1", "int perch 2", "int sell 1", "int days 1",
        "int says 1", "int when 1", "int often 2", "int phrase 2", "int ahead 3", "int lesson 3", "int away 3",
        "int swap 2", "int far 2", "int kind 4", "long luck 5", "long mean 4", "int see 2", "int forget 1",
        "int kinds 1", "int sounds 2", "int ask 3", "int drift 3", "int keep 1", "int back 1", "int sheet 3",
        "int lay 3", "int read 4", "int torn 0", "int count 1"};

    private static final Due due = new Due("RulesTest");

    private static void face() {
        Set<String> open = new TreeSet<>();
        Set<String> openNames = new TreeSet<>();
        for (Method m : ParrotHeirs.class.getDeclaredMethods()) {
            if (Modifier.isPrivate(m.getModifiers())) {
                continue;
            }
            due.isTrue(m.getName() + " is public, of the object, over ints", m.getModifiers() == Modifier.PUBLIC
                    && Arrays.stream(m.getParameterTypes()).allMatch(t -> t == int.class));
            open.add(m.getReturnType() + " " + m.getName() + " " + m.getParameterCount());
            openNames.add(m.getName());
        }
        due.isTrue("the face is " + open, open.equals(new TreeSet<>(Arrays.asList(FACE))));
        due.isTrue("the class is public and final",
                ParrotHeirs.class.getModifiers() == (Modifier.PUBLIC | Modifier.FINAL));
        Constructor<?>[] made = ParrotHeirs.class.getDeclaredConstructors();
        due.isTrue("one public constructor", made.length == 1 && made[0].getParameterCount() == 0
                && made[0].getModifiers() == Modifier.PUBLIC);
        Set<String> constants = new TreeSet<>();
        for (Field f : ParrotHeirs.class.getDeclaredFields()) {
            if (!Modifier.isPrivate(f.getModifiers())) {
                constants.add(f.getName());
            }
        }
        due.isTrue("the constants", constants.equals(Set.of("BAD", "STATE", "FULL", "NONE")));
        inside(openNames);
    }

    private static void inside(Set<String> openNames) {
        Class<?>[] classes = ParrotHeirs.class.getDeclaredClasses();
        due.isTrue("some twelve classes", classes.length < 12);
        hold(ParrotHeirs.class, openNames);
        for (Class<?> c : classes) {
            due.isTrue(c + " is static, not open", Modifier.isStatic(c.getModifiers())
                    && !Modifier.isPublic(c.getModifiers()) && !Modifier.isProtected(c.getModifiers()));
            hold(c, openNames);
        }
    }

    private static void hold(Class<?> c, Set<String> openNames) {
        int fields = 0;
        for (Field f : c.getDeclaredFields()) {
            boolean isStatic = Modifier.isStatic(f.getModifiers());
            due.isTrue(f + " is final if static", !isStatic || Modifier.isFinal(f.getModifiers()));
            fields += isStatic ? 0 : 1;
        }
        due.isTrue(c + " has at most twenty fields", fields <= 20);
        for (Method m : c.getDeclaredMethods()) {
            due.isTrue(m + " has at most seven parameters", m.getParameterCount() <= 7);
            due.isTrue(m + " has a name of its own", Modifier.isPublic(m.getModifiers())
                    || !openNames.contains(m.getName()));
        }
    }

    private static void words() throws Exception {
        String source = Files.readString(SOURCE);
        String code = source.replaceAll("(?s)/\\*.*?\\*/", "").replaceAll("//[^\n]*", "");
        String plain = code.replaceAll("\"[^\"\n]*\"", "\"\"");
        for (String word : new String[] {"throw", "throws", "try", "catch", "finally", "synchronized", "assert",
            "import", "package", "double", "float", "native", "volatile", "System\\.(?!arraycopy)", "\\w+Exact",
            "static\\s*\\{", "::", "->", "Random", "Thread", "Object"}) {
            Matcher m = Pattern.compile("(?<!\\w)" + word + "(?!\\w)").matcher(plain);
            due.isTrue("no " + word, !m.find());
        }
        due.isTrue("signs 1 to 127", source.chars().allMatch(c -> c >= 1 && c <= 127));
        int begun = 0;
        String[] lines = source.split("\n");
        for (int i = 0; i < lines.length; i++) {
            if (lines[i].matches(" {4}( {4})?[^ /*].*\\) \\{")) {
                begun = i;
            }
            if (lines[i].matches(" {4}( {4})?\\}")) {
                due.isTrue("line " + begun + " begins a short method", i - begun <= 60);
            }
        }
    }

    private static Map<String, Set<String>> callsByMethod(String source) {
        Map<String, Set<String>> calls = new HashMap<>();
        Set<String> ofThis = new TreeSet<>();
        for (String line : source.replaceAll("(?s)/\\*.*?\\*/", "").replaceAll("//[^\n]*", "").split("\n")) {
            Matcher head = Pattern.compile(" {4}(?: {4})?(?:\\w+(?:\\[\\])? )+(\\w+)\\([^()]*\\) \\{").matcher(line);
            if (head.matches()) {
                // two classes may have a method of the same name: then it is held as one that calls what both call
                ofThis = calls.computeIfAbsent(head.group(1), name -> new TreeSet<>());
                continue;
            }
            Matcher call = Pattern.compile("(\\w+)\\(").matcher(line);
            while (call.find()) {
                ofThis.add(call.group(1));
            }
        }
        return calls;
    }

    /** How many calls stand open at once, the library's own too; 100 if one could call itself. */
    private static int depth(String method, Map<String, Set<String>> calls, int above) {
        int deepest = 0;
        for (String called : calls.getOrDefault(method, Set.of())) {
            if (above > 30) {
                return 100;
            }
            deepest = Math.max(deepest, depth(called, calls, above + 1));
        }
        return 1 + deepest;
    }

    /** Rules 8 and 11: no recursion stands in the class, and calls go at most eight deep. */
    private static void depths() throws Exception {
        Map<String, Set<String>> calls = callsByMethod(Files.readString(SOURCE));
        for (String method : FACE) {
            String name = method.split(" ")[1];
            due.isTrue(name + " is found in the source", calls.containsKey(name));
            int deep = depth(name, calls, 0);
            due.isTrue(name + " goes at most eight deep, not " + deep, deep <= 8);
        }
    }

    private static int dearCalls(ParrotHeirs x, int turns) {
        int sum = 0;
        for (int i = 0; i < turns; i++) {
            sum += (int) (x.luck(i % 11, i % 5, i % 10, 8, 0) + x.mean(i % 11, i % 10, 8, 1));
            sum += x.ask(i % 5, 0, 0) + x.swap(i % 10, 0) + x.lesson(i % 10, 60, 1) + x.away(i % 10, 60, 0);
            sum += x.kind(i % 5, i % 10, 60, 0) + x.far(i % 10, 60) + x.drift(i, 60, 1) + x.phrase(i % 10, 3);
            sum += x.keep(i % 2) + x.days(1) + x.back(i % 2) + x.sheet(i % 4, i % 3, 40) + x.read(i % 4, i % 3, 0, 20);
            sum += x.sounds(0, 0) + x.kinds(0) + x.feed('a') + x.text() + x.fault() + x.rule(4) + x.count(4);
        }
        return sum;
    }

    /** All rows are made with the object, so calls make nothing; a few bytes are left to the machine. */
    private static void room() {
        com.sun.management.ThreadMXBean bean =
                (com.sun.management.ThreadMXBean) ManagementFactory.getThreadMXBean();
        ParrotHeirs x = new ParrotHeirs();
        for (int p = 0; p < 5; p++) {
            x.perch(p % 4, p);
        }
        long id = Thread.currentThread().getId();
        dearCalls(x, 30);
        long before = bean.getThreadAllocatedBytes(id);
        dearCalls(x, 30);
        long made = bean.getThreadAllocatedBytes(id) - before;
        due.isTrue("calls make nothing, but " + made + " bytes were made", made < 4096);
    }

    public static void main(String[] args) throws Exception {
        face();
        words();
        depths();
        room();
        due.close();
    }
}
