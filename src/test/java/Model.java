import java.math.BigInteger;
import java.util.ArrayList;
import java.util.Arrays;
import java.util.HashMap;
import java.util.HashSet;
import java.util.List;
import java.util.Map;
import java.util.Set;
import java.util.regex.Matcher;
import java.util.regex.Pattern;

/**
 * The document once more, written with lists and copies and without a thought for room,
 * so that ModelTest can hold the class against it. It shares no code with the class.
 */
public final class Model {
    static final int BAD = -1, STATE = -2, FULL = -3, NONE = -4;

    static final class Bird {
        int kind;
        int place;
        final List<Integer> memory = new ArrayList<>();

        Bird copy() {
            Bird b = new Bird();
            b.kind = kind;
            b.place = place;
            b.memory.addAll(memory);
            return b;
        }

        void step(int by) {
            place = Math.floorMod(place + by, memory.size());
        }

        void next() {
            step(new int[] {1, 2, 1, -1}[kind]);
        }

        void learn(int s) {
            boolean known = memory.contains(s);
            if (kind == 0 && !known || kind == 2) {
                memory.add(s);
                if (memory.size() == 7) {
                    memory.remove(0);
                }
            }
            if (kind == 3 && !known) {
                memory.add(0, s);
                if (memory.size() == 7) {
                    memory.remove(6);
                }
            }
        }
    }

    static final class World {
        final List<Bird> birds = new ArrayList<>();
        int ear = 1;
        int day = 0;
        List<int[]> seen = new ArrayList<>();

        World copy() {
            World w = new World();
            for (Bird b : birds) {
                w.birds.add(b.copy());
            }
            w.ear = ear;
            w.day = day;
            w.seen = new ArrayList<>(seen);
            return w;
        }

        int run() {
            int sound = NONE;
            if (!birds.isEmpty()) {
                int p = day % birds.size();
                Bird speaker = birds.get(p);
                sound = speaker.memory.get(speaker.place);
                speaker.next();
                for (int q = 0; q < birds.size(); q++) {
                    if (q != p && Math.abs(p - q) <= ear) {
                        birds.get(q).learn(sound);
                    }
                }
            }
            day++;
            return sound;
        }

        List<Integer> said(int n) {
            World w = copy();
            List<Integer> all = new ArrayList<>();
            for (int i = 0; i < n; i++) {
                all.add(w.run());
            }
            return all;
        }

        World behind(int n) {
            World w = copy();
            for (int i = 0; i < n; i++) {
                w.run();
            }
            return w;
        }

        int times(int s, int n) {
            return (int) said(n).stream().filter(x -> x == s).count();
        }

        int first(int s) {
            return said(61).indexOf(s);
        }

        boolean asSeen() {
            List<Integer> all = said(21);
            return seen.stream().allMatch(e -> all.get(e[0]) == e[1]);
        }

        int knowers(int s) {
            int bits = 0;
            for (int p = 0; p < birds.size(); p++) {
                bits |= birds.get(p).memory.contains(s) ? 1 << p : 0;
            }
            return bits;
        }
    }

    World w = new World();
    String tape = "";
    int fault = 0;
    int torn = 0;
    World[] images = new World[2];
    Object[] sheets = new Object[4];

    static boolean in(int v, int a, int b) {
        return v >= a && v <= b;
    }

    boolean isBird(int p) {
        return in(p, 0, w.birds.size() - 1);
    }

    static boolean isSound(int s) {
        return in(s, 0, 9);
    }

    public int feed(int c) {
        if (!in(c, 0, 127)) return BAD;
        if (tape.length() == 160) return FULL;
        tape += (char) c;
        return tape.length();
    }

    public int end(int n) {
        if (!in(n, 0, tape.length())) return BAD;
        int had = tape.length();
        tape = tape.substring(0, n);
        return had;
    }

    /** A run of states: the text is read by an automaton over one TOKEN at a time. */
    public int text() {
        String all = tape;
        tape = "";
        World told = new World();
        Matcher m = Pattern.compile(" *([a-z]+|[0-9]+|;|\\z|.)", Pattern.DOTALL).matcher(all);
        int at = 0, lines = 0;
        boolean ear = false;
        String state = "line";
        fault = 0;
        while (fault == 0) {
            m.find(at);
            String token = m.group(1);
            int place = m.start(1);
            at = m.end();
            boolean name = token.matches("[a-z]+"), number = token.matches("[0-9]+");
            if (!name && !number && !token.equals(";") && !token.isEmpty() || number && token.length() > 2) {
                fault = 1;
            } else if (state.equals("line")) {
                int kind = Arrays.asList("plain", "old", "young", "sly").indexOf(token);
                if (token.isEmpty()) {
                    w = told;
                    images = new World[2];
                    return lines;
                } else if (kind >= 0) {
                    if (told.birds.size() == 5) fault = 5;
                    Bird b = new Bird();
                    b.kind = kind;
                    told.birds.add(b);
                    state = "first";
                } else if (token.equals("ear")) {
                    if (ear) fault = 4;
                    ear = true;
                    state = "ear";
                } else {
                    fault = 2;
                }
            } else if (state.equals("ear") || state.equals("first")) {
                fault = !number ? 2 : 0;
                if (number) {
                    int v = Integer.parseInt(token);
                    if (state.equals("ear")) {
                        if (v < 1 || v > 4) fault = 3;
                        told.ear = v;
                        state = "shut";
                    } else {
                        if (v > 9) fault = 3;
                        told.birds.get(told.birds.size() - 1).memory.add(v);
                        state = "more";
                    }
                }
            } else if (token.equals(";")) {
                lines++;
                state = "line";
            } else if (state.equals("more") && number) {
                List<Integer> memory = told.birds.get(told.birds.size() - 1).memory;
                int v = Integer.parseInt(token);
                fault = memory.size() == 6 ? 5 : v > 9 ? 3 : 0;
                memory.add(v);
            } else {
                fault = 2;
            }
            if (fault != 0) {
                return -10 - place;
            }
        }
        throw new IllegalStateException();
    }

    public int fault() {
        return fault;
    }

    public int rule(int what) {
        boolean none = w.birds.isEmpty();
        if (what == 0) return w.birds.size();
        if (what == 1) return w.day;
        if (what == 2) return w.ear;
        if (what == 3) return none ? NONE : w.day % w.birds.size();
        if (what == 4) return w.said(1).get(0);
        if (what == 5) return w.birds.stream().mapToInt(b -> b.memory.size()).sum();
        return BAD;
    }

    static int known(Bird b) {
        return b.memory.stream().mapToInt(s -> 1 << s).reduce(0, (x, y) -> x | y);
    }

    public int parrot(int p, int what) {
        if (!isBird(p)) return BAD;
        Bird b = w.birds.get(p);
        if (what == 0) return b.kind;
        if (what == 1) return b.memory.size();
        if (what == 2) return b.place;
        if (what == 3) return known(b);
        if (!in(what, 10, 15)) return BAD;
        return what - 10 >= b.memory.size() ? NONE : b.memory.get(what - 10);
    }

    public int knows(int s) {
        return isSound(s) ? w.knowers(s) : BAD;
    }

    public int moult(int p, int v) {
        if (!isBird(p) || !in(v, 0, 3)) return BAD;
        int was = w.birds.get(p).kind;
        w.birds.get(p).kind = v;
        return was;
    }

    public int turn(int p, int v) {
        if (!isBird(p) || !in(v, 0, w.birds.get(p).memory.size() - 1)) return BAD;
        int was = w.birds.get(p).place;
        w.birds.get(p).place = v;
        return was;
    }

    public int teach(int p, int s) {
        if (!isBird(p) || !isSound(s)) return BAD;
        w.birds.get(p).learn(s);
        return w.birds.get(p).memory.size();
    }

    public int ear(int v) {
        if (!in(v, 1, 4)) return BAD;
        int was = w.ear;
        w.ear = v;
        return was;
    }

    public int perch(int kind, int s) {
        if (!in(kind, 0, 3) || !isSound(s)) return BAD;
        if (w.birds.size() == 5) return FULL;
        Bird b = new Bird();
        b.kind = kind;
        b.memory.add(s);
        w.birds.add(b);
        return w.birds.size();
    }

    public int sell(int n) {
        int were = w.birds.size();
        if (!in(n, 0, were)) return BAD;
        w.birds.subList(n, were).clear();
        return were;
    }

    static int unlike(List<Integer> all) {
        Set<Integer> set = new HashSet<>(all);
        set.remove(NONE);
        return set.size();
    }

    public int days(int n) {
        if (!in(n, 0, 30)) return BAD;
        if (w.day + n > 999) return FULL;
        List<Integer> all = w.said(n);
        w = w.behind(n);
        return unlike(all);
    }

    public int says(int n) {
        return in(n, 0, 60) ? w.said(61).get(n) : BAD;
    }

    public int when(int s) {
        if (!isSound(s)) return BAD;
        return w.first(s) < 0 ? NONE : w.first(s);
    }

    public int often(int s, int n) {
        return isSound(s) && in(n, 0, 60) ? w.times(s, n) : BAD;
    }

    public int phrase(int s, int t) {
        if (!isSound(s) || !isSound(t)) return BAD;
        List<Integer> all = w.said(62);
        for (int d = 0; d <= 60; d++) {
            if (all.subList(d, d + 2).equals(List.of(s, t))) return d;
        }
        return NONE;
    }

    public int ahead(int p, int n, int what) {
        if (!isBird(p) || !in(n, 0, 60) || !in(what, 0, 2)) return BAD;
        Bird b = w.behind(n).birds.get(p);
        return what == 0 ? known(b) : what == 1 ? b.memory.size() : b.place;
    }

    public int lesson(int s, int n, int what) {
        if (!isSound(s) || !in(n, 0, 60) || !in(what, 0, 1)) return BAD;
        int most = w.times(s, n), which = NONE;
        for (int p = 0; p < w.birds.size(); p++) {
            World t = w.copy();
            t.birds.get(p).learn(s);
            if (t.times(s, n) > most) {
                most = t.times(s, n);
                which = p;
            }
        }
        return which == NONE || what == 0 ? which : most;
    }

    public int away(int s, int n, int what) {
        if (!isSound(s) || !in(n, 0, 60) || !in(what, 0, 1)) return BAD;
        int fewest = w.times(s, n), which = NONE;
        for (int p = 0; p < w.birds.size(); p++) {
            World t = w.copy();
            t.birds.remove(p);
            if (t.times(s, n) < fewest) {
                fewest = t.times(s, n);
                which = p;
            }
        }
        return which == NONE || what == 0 ? which : fewest;
    }

    public int swap(int s, int what) {
        if (!isSound(s) || !in(what, 0, 1)) return BAD;
        int soonest = w.first(s) < 0 ? 999 : w.first(s), which = NONE;
        for (int pair = 0; pair < 50; pair++) {
            int a = pair / 10, b = pair % 10;
            if (a >= b || !isBird(b)) continue;
            World t = w.copy();
            java.util.Collections.swap(t.birds, a, b);
            int first = t.first(s);
            if (first >= 0 && first < soonest) {
                soonest = first;
                which = pair;
            }
        }
        return which == NONE || what == 0 ? which : soonest;
    }

    public int far(int s, int n) {
        if (!isSound(s) || !in(n, 0, 60)) return BAD;
        for (int v = 1; v <= 4; v++) {
            World t = w.copy();
            t.ear = v;
            if (t.behind(n).birds.stream().allMatch(b -> b.memory.contains(s))) return v;
        }
        return NONE;
    }

    public int kind(int p, int s, int n, int what) {
        if (!isBird(p) || !isSound(s) || !in(n, 0, 60) || !in(what, 0, 1)) return BAD;
        int[] times = new int[4];
        int best = 0;
        for (int v = 0; v < 4; v++) {
            World t = w.copy();
            t.birds.get(p).kind = v;
            times[v] = t.times(s, n);
            if (times[v] > times[best]) best = v;
        }
        return what == 0 ? best : times[best];
    }

    /** Leaves how many of ten to the n ways end with each set of knowers in ways. */
    static void cloth(World t, int v, int s, int n, BigInteger weight, Map<Integer, BigInteger> ways) {
        if (n == 0) {
            ways.merge(t.knowers(s), weight, BigInteger::add);
            return;
        }
        World covered = t.copy();
        covered.day++;
        cloth(covered, v, s, n - 1, weight.multiply(BigInteger.valueOf(v)), ways);
        cloth(t.behind(1), v, s, n - 1, weight.multiply(BigInteger.valueOf(10 - v)), ways);
    }

    long fraction(int v, int s, int n, int what, int among) {
        Map<Integer, BigInteger> ways = new HashMap<>();
        cloth(w, v, s, n, BigInteger.ONE, ways);
        BigInteger top = BigInteger.ZERO;
        for (Map.Entry<Integer, BigInteger> e : ways.entrySet()) {
            top = top.add(e.getValue().multiply(BigInteger.valueOf(Integer.bitCount(e.getKey() & among))));
        }
        BigInteger bottom = BigInteger.TEN.pow(n);
        BigInteger g = top.gcd(bottom);
        return (what == 0 ? top : bottom).divide(g).longValueExact();
    }

    static boolean clothOk(int v, int s, int n, int what) {
        return in(v, 0, 10) && isSound(s) && in(n, 0, 8) && in(what, 0, 1);
    }

    public long luck(int v, int p, int s, int n, int what) {
        return isBird(p) && clothOk(v, s, n, what) ? fraction(v, s, n, what, 1 << p) : BAD;
    }

    public long mean(int v, int s, int n, int what) {
        return clothOk(v, s, n, what) ? fraction(v, s, n, what, 31) : BAD;
    }

    public int see(int n, int s) {
        if (!in(n, 0, 20) || !isSound(s)) return BAD;
        if (w.seen.size() == 6) return FULL;
        w.seen.add(new int[] {n, s});
        return w.seen.size();
    }

    public int forget(int n) {
        int were = w.seen.size();
        if (!in(n, 0, were)) return BAD;
        w.seen = new ArrayList<>(w.seen.subList(0, n));
        return were;
    }

    public int kinds(int p) {
        if (!isBird(p)) return BAD;
        int bits = 0;
        for (int v = 0; v < 4; v++) {
            World t = w.copy();
            t.birds.get(p).kind = v;
            bits += t.asSeen() ? 1 << v : 0;
        }
        return bits;
    }

    World with(int p, int i, int s) {
        World t = w.copy();
        t.birds.get(p).memory.set(i, s);
        return t;
    }

    public int sounds(int p, int i) {
        if (!isBird(p) || !in(i, 0, w.birds.get(p).memory.size() - 1)) return BAD;
        int bits = 0;
        for (int s = 0; s < 10; s++) {
            bits += with(p, i, s).asSeen() ? 1 << s : 0;
        }
        return bits;
    }

    public int ask(int p, int i, int what) {
        int bits = sounds(p, i);
        if (bits == BAD || !in(what, 0, 1)) return BAD;
        int fewest = Integer.bitCount(bits), which = NONE;
        for (int d = 0; d <= 20; d++) {
            int worst = 0;
            for (int heard = 0; heard < 10; heard++) {
                int left = 0;
                for (int s = 0; s < 10; s++) {
                    if ((bits >> s & 1) == 1 && with(p, i, s).said(21).get(d) == heard) left++;
                }
                worst = Math.max(worst, left);
            }
            if (worst < fewest) {
                fewest = worst;
                which = d;
            }
        }
        return which == NONE || what == 0 ? which : fewest;
    }

    public int drift(int seed, int n, int what) {
        if (!in(n, 1, 60) || !in(what, 0, 1)) return BAD;
        if (w.birds.isEmpty()) return STATE;
        World t = w.copy();
        BigInteger x = BigInteger.valueOf(seed);
        List<Integer> all = new ArrayList<>();
        for (int i = 0; i < n; i++) {
            x = x.multiply(BigInteger.valueOf(1103515245L)).add(BigInteger.valueOf(12345L));
            int got = x.shiftRight(16).mod(BigInteger.valueOf(32768)).intValue();
            t.birds.get(got % t.birds.size()).learn(got / 8 % 10);
            all.add(t.run());
        }
        return what == 0 ? all.get(n - 1) : unlike(all);
    }

    public int keep(int k) {
        if (!in(k, 0, 1)) return BAD;
        int was = images[k] == null ? 0 : 1;
        images[k] = w.copy();
        return was;
    }

    public int back(int k) {
        if (!in(k, 0, 1)) return BAD;
        if (images[k] == null) return STATE;
        w = images[k].copy();
        return w.day;
    }

    public int sheet(int k, int lane, int n) {
        if (!in(k, 0, 3) || !in(lane, 0, 2) || n > 40) return BAD;
        if (n < 0) return -14;
        sheets[k] = lane == 0 ? new byte[n] : lane == 1 ? new short[n] : (Object) new int[n];
        return 1;
    }

    public int lay(int k, int i, int v) {
        if (!in(k, 0, 3)) return BAD;
        if (sheets[k] == null) return -11;
        try {
            if (sheets[k] instanceof byte[] b) b[i] = (byte) v;
            if (sheets[k] instanceof short[] b) b[i] = (short) v;
            if (sheets[k] instanceof int[] b) b[i] = v;
        } catch (ArrayIndexOutOfBoundsException e) {
            return -12;
        }
        return 1;
    }

    private static int cellAs(int lane, Object sheet, int at) {
        if (lane == 0) return ((byte[]) sheet)[at];
        if (lane == 1) return ((short[]) sheet)[at];
        return ((int[]) sheet)[at];
    }

    public int read(int k, int lane, int f, int n) {
        if (!in(k, 0, 3) || !in(lane, 0, 2) || !in(n, 0, 20)) return BAD;
        World was = w.copy();
        int came = 0, found = 0;
        // here the machine itself finds the FAULTS, which the class may not leave to it
        try {
            while (came < n) {
                int at = f + 2 * came;
                int p = cellAs(lane, sheets[k], at);
                int s = cellAs(lane, sheets[k], at + 1);
                if (teach(p, s) == BAD) {
                    w = was;
                    return -20 - came;
                }
                came++;
            }
        } catch (NullPointerException e) {
            found = 1;
        } catch (ArrayIndexOutOfBoundsException e) {
            found = 2;
        } catch (ClassCastException e) {
            found = 3;
        }
        torn = found;
        return came;
    }

    public int torn() {
        return torn;
    }

    public int count(int what) {
        if (what == 0) return w.seen.size();
        if (what == 1) return (images[0] == null ? 0 : 1) + (images[1] == null ? 0 : 1);
        if (what == 2) return tape.length();
        if (what == 3) return sheets[0] == null ? NONE : java.lang.reflect.Array.getLength(sheets[0]);
        if (what == 4) return w.birds.stream().flatMap(b -> b.memory.stream()).mapToInt(x -> x).sum();
        if (what == 5) return w.birds.stream().mapToInt(b -> b.place).sum();
        return BAD;
    }
}
