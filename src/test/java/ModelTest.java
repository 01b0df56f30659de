import java.lang.reflect.Method;
import java.lang.reflect.Modifier;
import java.util.ArrayList;
import java.util.Arrays;
import java.util.Comparator;
import java.util.List;
import java.util.Random;

/** Long runs of calls, likely and unlikely ones, each answer held against the Model's. */
public final class ModelTest {
    private static final int RUNS = 1500;
    private static final int CALLS = 512;
    private static final int[] EDGES = {-2147483648, -1000, -21, -2, -1, 0, 1, 2, 3, 4, 5, 6, 7, 8, 9,
        10, 11, 15, 16, 20, 21, 30, 31, 40, 41, 60, 61, 127, 128, 256, 300, 65536, 2147483646, 2147483647};

    /** By call, its arguments' likely bounds: least, most, least, most ... */
    private static int[] bounds(String call) {
        switch (call) {
            case "feed": return new int[] {0, 127};
            case "end": return new int[] {0, 30};
            case "rule": return new int[] {0, 5};
            case "parrot": return new int[] {0, 4, 0, 15};
            case "knows": return new int[] {0, 9};
            case "moult": return new int[] {0, 4, 0, 3};
            case "turn": return new int[] {0, 4, 0, 5};
            case "teach": return new int[] {0, 4, 0, 9};
            case "ear": return new int[] {1, 4};
            case "perch": return new int[] {0, 3, 0, 9};
            case "sell": return new int[] {0, 5};
            case "days": return new int[] {0, 30};
            case "says": return new int[] {0, 60};
            case "when": return new int[] {0, 9};
            case "often": return new int[] {0, 9, 0, 60};
            case "phrase": return new int[] {0, 9, 0, 9};
            case "ahead": return new int[] {0, 4, 0, 60, 0, 2};
            case "lesson": return new int[] {0, 9, 0, 60, 0, 1};
            case "away": return new int[] {0, 9, 0, 60, 0, 1};
            case "swap": return new int[] {0, 9, 0, 1};
            case "far": return new int[] {0, 9, 0, 60};
            case "kind": return new int[] {0, 4, 0, 9, 0, 60, 0, 1};
            case "luck": return new int[] {0, 10, 0, 4, 0, 9, 0, 8, 0, 1};
            case "mean": return new int[] {0, 10, 0, 9, 0, 8, 0, 1};
            case "see": return new int[] {0, 20, 0, 9};
            case "forget": return new int[] {0, 6};
            case "kinds": return new int[] {0, 4};
            case "sounds": return new int[] {0, 4, 0, 5};
            case "ask": return new int[] {0, 4, 0, 5, 0, 1};
            case "drift": return new int[] {-2147483648, 2147483647, 1, 60, 0, 1};
            case "keep": return new int[] {0, 1};
            case "back": return new int[] {0, 1};
            case "sheet": return new int[] {0, 3, 0, 2, -1, 40};
            case "lay": return new int[] {0, 3, 0, 39, 0, 9};
            case "read": return new int[] {0, 3, 0, 2, 0, 39, 0, 20};
            case "count": return new int[] {0, 5};
            default: return new int[0];
        }
    }

    private final Random random;
    private final Due due;
    private final List<Method> face = new ArrayList<>();
    private ParrotHeirs heirs;
    private Model model;
    private final StringBuilder run = new StringBuilder();

    private ModelTest(long seed, Due due) {
        random = new Random(seed);
        this.due = due;
        for (Method m : ParrotHeirs.class.getDeclaredMethods()) {
            if (Modifier.isPublic(m.getModifiers())) {
                face.add(m);
            }
        }
        face.sort(Comparator.comparing(Method::getName));
    }

    private int between(int least, int most) {
        return (int) (least + (long) (random.nextDouble() * ((long) most - least + 1)));
    }

    private int argument(int least, int most) {
        int luck = random.nextInt(40);
        if (luck == 0) {
            return random.nextInt();
        }
        if (luck == 1) {
            return EDGES[random.nextInt(EDGES.length)];
        }
        if (luck < 5) {
            return random.nextBoolean() ? least : most;
        }
        if (luck == 5) {
            return random.nextBoolean() ? least - 1 : most + 1;
        }
        return between(least, most);
    }

    private void call(Method m, int[] args) throws Exception {
        Object[] boxed = Arrays.stream(args).boxed().toArray();
        Method other = Model.class.getMethod(m.getName(), m.getParameterTypes());
        long want = ((Number) other.invoke(model, boxed)).longValue();
        String name = m.getName() + Arrays.toString(args);
        long got = ((Number) m.invoke(heirs, boxed)).longValue();
        run.append(' ').append(name);
        int wrong = due.wrongSoFar();
        due.is(name, got, want);
        if (due.wrongSoFar() != wrong && wrong < 3) {
            System.out.println("the run:" + run);
        }
    }

    private void callByName(String name, int... args) throws Exception {
        for (Method m : face) {
            if (m.getName().equals(name)) {
                call(m, args);
            }
        }
    }

    private String someText() {
        StringBuilder t = new StringBuilder();
        int lines = random.nextInt(6);
        for (int i = 0; i < lines; i++) {
            t.append(new String[] {"plain", "old", "young", "sly", "ear"}[random.nextInt(i == 0 ? 5 : 4)]);
            boolean ear = t.toString().endsWith("ear");
            int numbers = ear ? 1 : 1 + random.nextInt(6);
            for (int k = 0; k < numbers; k++) {
                t.append(random.nextInt(9) == 0 ? "  " : " ");
                t.append(ear ? 1 + random.nextInt(4) : random.nextInt(10));
            }
            t.append(random.nextInt(4) == 0 ? " ; " : ";");
        }
        if (random.nextInt(2) == 0) {
            spoil(t);
        }
        return t.toString();
    }

    private void spoil(StringBuilder t) {
        String[] bits = {"", " ", ";", "0", "7", "10", "99", "123", "a", "ear", "ear 2;", "old 1;", "sly", "A",
            ":", "\t", "{", "`", "/", " 1 2 3 4 5 6 7", " 1 2 3 4 5 6 77", "plain 1;old 2;sly 3;young 4;", "\0", "\177"};
        int at = random.nextInt(t.length() + 1);
        int to = Math.min(t.length(), at + random.nextInt(3));
        t.replace(at, to, bits[random.nextInt(bits.length)]);
    }

    private void tellText() throws Exception {
        if (random.nextInt(4) > 0) {
            callByName("end", 0);
        }
        String t = someText();
        for (int i = 0; i < t.length(); i++) {
            callByName("feed", t.charAt(i));
        }
        if (random.nextInt(10) > 0) {
            callByName("text");
            callByName("fault");
            lookAround();
        }
    }

    /** So that a wrong state shows at once, and what is refused is seen to change nothing. */
    private void lookAround() throws Exception {
        for (int what = 0; what <= 5; what++) {
            callByName("rule", what);
            callByName("count", what);
        }
        for (int p = 0; p < model.w.birds.size(); p++) {
            for (int what = 0; what <= 15; what++) {
                callByName("parrot", p, what);
            }
        }
    }

    /** What could truly be heard, so that what is SEEN now and then leaves something. */
    private void seeWhatIsSaid() throws Exception {
        int d = random.nextInt(21);
        int s = model.w.said(21).get(d);
        if (s >= 0) {
            callByName("see", d, s);
        }
    }

    private void layPair() throws Exception {
        int k = random.nextInt(4);
        int i = 2 * random.nextInt(8);
        callByName("lay", k, i, random.nextInt(Math.max(1, model.w.birds.size())));
        callByName("lay", k, i + 1, random.nextInt(10));
    }

    private void oneRun() throws Exception {
        heirs = new ParrotHeirs();
        model = new Model();
        run.setLength(0);
        for (int i = 0; i < CALLS / 4; i++) {
            int luck = random.nextInt(60);
            if (i == 0 && random.nextInt(4) > 0 || luck == 0) {
                tellText();
            } else if (luck == 1) {
                lookAround();
            } else if (luck < 5) {
                seeWhatIsSaid();
            } else if (luck < 8) {
                layPair();
            } else {
                Method m = face.get(random.nextInt(face.size()));
                int[] bounds = bounds(m.getName());
                int[] args = new int[bounds.length / 2];
                for (int a = 0; a < args.length; a++) {
                    args[a] = argument(bounds[2 * a], bounds[2 * a + 1]);
                }
                call(m, args);
            }
        }
        lookAround();
    }

    public static void main(String[] args) throws Exception {
        Due due = new Due("ModelTest");
        int runs = args.length > 0 ? Integer.parseInt(args[0]) : RUNS;
        long from = args.length > 1 ? Long.parseLong(args[1]) : 1;
        for (int i = 0; i < runs; i++) {
            new ModelTest(from + i, due).oneRun();
        }
        due.close();
    }
}
