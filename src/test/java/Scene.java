import java.lang.reflect.Method;
import java.lang.reflect.Modifier;
import java.util.HashMap;
import java.util.Map;

/**
 * A new object behind a run of calls that is written out, so that the same one can be made again.
 * A run: items between " | ", each a call as days(3), or days(30) x33, or 'feed abc' (each byte),
 * or 'text abc' (each byte, then text()).
 */
final class Scene {
    private static final int MOST_CALLS = 512;
    private static final Map<String, Method> FACE = face();
    private static final Map<String, String> PICTURES = new HashMap<>();

    private final ParrotHeirs heirs = new ParrotHeirs();
    private int calls;

    Scene(String run) {
        if (!run.isEmpty()) {
            for (String item : run.split(" \\| ")) {
                act(item);
            }
        }
    }

    private static Map<String, Method> face() {
        Map<String, Method> face = new HashMap<>();
        for (Method m : ParrotHeirs.class.getDeclaredMethods()) {
            if (Modifier.isPublic(m.getModifiers())) {
                face.put(m.getName(), m);
            }
        }
        return face;
    }

    private void act(String item) {
        if (item.startsWith("feed ") || item.startsWith("text ")) {
            for (int i = 5; i < item.length(); i++) {
                ask("feed", item.charAt(i));
            }
            if (item.startsWith("text ")) {
                ask("text");
            }
            return;
        }
        int behind = item.indexOf(") x");
        int times = behind < 0 ? 1 : Integer.parseInt(item.substring(behind + 3));
        for (int i = 0; i < times; i++) {
            call(item);
        }
    }

    /** A call as it is written: days(3). */
    long call(String written) {
        int open = written.indexOf('(');
        String inside = written.substring(open + 1, written.indexOf(')')).replace(" ", "");
        String[] numbers = inside.isEmpty() ? new String[0] : inside.split(",");
        int[] args = new int[numbers.length];
        for (int i = 0; i < args.length; i++) {
            args[i] = Integer.parseInt(numbers[i]);
        }
        return ask(written.substring(0, open), args);
    }

    private long ask(String name, int... args) {
        calls++;
        if (calls > MOST_CALLS) {
            throw new IllegalStateException("more than 512 calls of one object, with " + name);
        }
        Object[] boxed = new Object[args.length];
        for (int i = 0; i < args.length; i++) {
            boxed[i] = args[i];
        }
        try {
            return ((Number) FACE.get(name).invoke(heirs, boxed)).longValue();
        } catch (ReflectiveOperationException e) {
            throw new IllegalStateException(name + " threw", e);
        }
    }

    /** All that calls can tell of the object behind a run; each look that changes it has one of its own. */
    static String picture(String run) {
        return PICTURES.computeIfAbsent(run, Scene::newPicture);
    }

    static String pictureButFault(String run) {
        return picture(run).replaceAll(" fault \\d", "");
    }

    private static String newPicture(String run) {
        StringBuilder all = new StringBuilder();
        new Scene(run).look(all.append("now:"));
        for (String change : new String[] {"text()", "back(0)", "back(1)"}) {
            Scene changed = new Scene(run);
            all.append("\nbehind ").append(change).append(": ").append(changed.call(change));
            changed.look(all);
        }
        for (int k = 0; k < 4; k++) {
            for (int lane = 0; lane < 3; lane++) {
                new Scene(run).lookAtCells(k, lane, all.append("\nSHEET ").append(k).append(':'));
            }
        }
        return all.toString();
    }

    private void tell(StringBuilder all, String name, int... args) {
        all.append(' ').append(ask(name, args));
    }

    private void look(StringBuilder all) {
        for (int what = 0; what <= 5; what++) {
            tell(all, "rule", what);
            tell(all, "count", what);
        }
        tell(all.append(" fault"), "fault");
        tell(all.append(" torn"), "torn");
        for (int s = 0; s <= 9; s++) {
            tell(all, "knows", s);
        }
        long parrots = ask("rule", 0);
        for (int p = 0; p < parrots; p++) {
            all.append(" /");
            for (int what : new int[] {0, 1, 2, 3, 10, 11, 12, 13, 14, 15}) {
                tell(all, "parrot", p, what);
            }
            // what was SEEN shows in these
            tell(all, "kinds", p);
            long size = ask("parrot", p, 1);
            for (int i = 0; i < size; i++) {
                tell(all, "sounds", p, i);
            }
        }
    }

    /** Pairs are read one by one to five young ones, so that each PARROT's number and SOUND show. */
    private void lookAtCells(int k, int lane, StringBuilder all) {
        ask("sell", 0);
        for (int p = 0; p < 5; p++) {
            ask("perch", 2, 0);
        }
        // an answer below 0 leaves torn() as it was, so it begins at 0
        ask("read", k, lane, 0, 0);
        boolean isThere = true;
        for (int f = 0; f < 40 && isThere; f += 2) {
            tell(all, "read", k, lane, f, 1);
            long torn = ask("torn");
            isThere = torn == 0;
            all.append(' ').append(torn);
            for (int p = 0; p < 5 && isThere; p++) {
                int size = (int) ask("parrot", p, 1);
                tell(all.append(' ').append(size), "parrot", p, 9 + size);
            }
        }
        int cells = 0;
        while (cells < 41 && ask("lay", k, cells, 0) == 1) {
            cells++;
        }
        all.append(" cells ").append(cells);
    }
}
