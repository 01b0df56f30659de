/**
 * Parrots on perches that say, hear, learn and forget sounds, day by day, told by a text.
 * Every row is made when the object is made and used again, so that no call makes anything.
 */
public final class ParrotHeirs {
    public static final int BAD = -1, STATE = -2, FULL = -3, NONE = -4;

    private static final int MOST_PARROTS = 5;
    private static final int MOST_IN_MEMORY = 6;
    private static final int KINDS = 4;
    private static final int PLAIN = 0, OLD = 1, YOUNG = 2, SLY = 3;
    private static final int SOUNDS = 10;
    private static final int LEAST_EAR = 1, MOST_EAR = 4;

    private static final int MOST_BYTES = 160;
    private static final int MOST_SEEN = 6;
    private static final int LAST_SEEN_DAY = 20;
    private static final int MOST_DAYS_RUN = 30;
    private static final int DAYS_END = 1000;
    private static final int MOST_DAYS = 60;
    private static final int MOST_CLOTH_DAYS = 8;

    private static final int IMAGES = 2;
    private static final int SHEETS = 4;
    private static final int LANES = 3;
    private static final int MOST_CELLS = 40;
    private static final int MOST_READ = 20;
    private static final int NULL_FAULT = 1, INDEX_FAULT = 2, CAST_FAULT = 3, SIZE_FAULT = 4;

    private final Aviary now = new Aviary();
    private final Seen seenNow = new Seen();
    private final Aviary trial = new Aviary();
    private final Aviary runner = new Aviary();
    // phrase() looks one DAY behind DAY 60
    private final int[] said = new int[MOST_DAYS + 2];
    private final int[] heard = new int[(LAST_SEEN_DAY + 1) * SOUNDS];
    private final byte[] tape = new byte[MOST_BYTES];
    private final TextReader reader = new TextReader();
    private final Image[] images = new Image[IMAGES];
    private final Sheet[] rows = new Sheet[SHEETS];
    private int tapeLength;
    private int textFault;
    private int readFault;

    public ParrotHeirs() {
        for (int k = 0; k < IMAGES; k++) {
            images[k] = new Image();
        }
        for (int k = 0; k < SHEETS; k++) {
            rows[k] = new Sheet();
        }
    }

    // ---- the text

    public int feed(int c) {
        if (!isWithin(c, 0, 127)) {
            return BAD;
        }
        if (tapeLength >= MOST_BYTES) {
            return FULL;
        }
        tape[tapeLength] = (byte) c;
        tapeLength++;
        return tapeLength;
    }

    public int end(int n) {
        if (!isWithin(n, 0, tapeLength)) {
            return BAD;
        }
        int had = tapeLength;
        tapeLength = n;
        return had;
    }

    public int text() {
        int lines = reader.readText(tape, tapeLength, trial);
        tapeLength = 0;
        textFault = reader.fault;
        if (textFault != 0) {
            return -10 - reader.from;
        }
        now.becomes(trial);
        seenNow.size = 0;
        for (int k = 0; k < IMAGES; k++) {
            images[k].isThere = false;
        }
        return lines;
    }

    public int fault() {
        return textFault;
    }

    public int rule(int what) {
        switch (what) {
            case 0: return now.parrots;
            case 1: return now.day;
            case 2: return now.ear;
            case 3: return now.speaker();
            case 4: return now.soundDue();
            case 5: return now.allSizes();
            default: return BAD;
        }
    }

    public int parrot(int p, int what) {
        if (!isParrot(p)) {
            return BAD;
        }
        switch (what) {
            case 0: return now.kind[p];
            case 1: return now.size[p];
            case 2: return now.place[p];
            case 3: return now.soundsKnown(p);
            default: break;
        }
        if (!isWithin(what, 10, 10 + MOST_IN_MEMORY - 1)) {
            return BAD;
        }
        return what - 10 < now.size[p] ? now.soundAt(p, what - 10) : NONE;
    }

    public int knows(int s) {
        return isSound(s) ? now.knowers(s) : BAD;
    }

    // ---- what is changed

    public int moult(int p, int v) {
        if (!isParrot(p) || !isKind(v)) {
            return BAD;
        }
        int was = now.kind[p];
        now.kind[p] = v;
        return was;
    }

    public int turn(int p, int v) {
        if (!hasSound(p, v)) {
            return BAD;
        }
        int was = now.place[p];
        now.place[p] = v;
        return was;
    }

    public int teach(int p, int s) {
        if (!isParrot(p) || !isSound(s)) {
            return BAD;
        }
        now.learn(p, s);
        return now.size[p];
    }

    public int ear(int v) {
        if (!isWithin(v, LEAST_EAR, MOST_EAR)) {
            return BAD;
        }
        int was = now.ear;
        now.ear = v;
        return was;
    }

    public int perch(int kind, int s) {
        if (!isKind(kind) || !isSound(s)) {
            return BAD;
        }
        if (now.parrots >= MOST_PARROTS) {
            return FULL;
        }
        now.addParrot(kind);
        now.putBehind(now.parrots - 1, s);
        return now.parrots;
    }

    public int sell(int n) {
        if (!isWithin(n, 0, now.parrots)) {
            return BAD;
        }
        int were = now.parrots;
        now.parrots = n;
        return were;
    }

    // ---- days

    public int days(int n) {
        if (!isWithin(n, 0, MOST_DAYS_RUN)) {
            return BAD;
        }
        if (now.day + n >= DAYS_END) {
            return FULL;
        }
        int bits = 0;
        for (int d = 0; d < n; d++) {
            bits |= soundBit(now.passDay());
        }
        return Integer.bitCount(bits);
    }

    public int says(int n) {
        if (!isDays(n)) {
            return BAD;
        }
        foretell(now, n + 1);
        return said[n];
    }

    public int when(int s) {
        if (!isSound(s)) {
            return BAD;
        }
        int first = firstSaid(now, s);
        return first > MOST_DAYS ? NONE : first;
    }

    public int often(int s, int n) {
        return isSound(s) && isDays(n) ? timesSaid(now, s, n) : BAD;
    }

    public int phrase(int s, int t) {
        if (!isSound(s) || !isSound(t)) {
            return BAD;
        }
        foretell(now, MOST_DAYS + 2);
        for (int d = 0; d <= MOST_DAYS; d++) {
            if (said[d] == s && said[d + 1] == t) {
                return d;
            }
        }
        return NONE;
    }

    public int ahead(int p, int n, int what) {
        if (!isParrot(p) || !isDays(n) || !isWithin(what, 0, 2)) {
            return BAD;
        }
        foretell(now, n);
        switch (what) {
            case 0: return runner.soundsKnown(p);
            case 1: return runner.size[p];
            default: return runner.place[p];
        }
    }

    // ---- what is best

    public int lesson(int s, int n, int what) {
        if (!isSound(s) || !isDays(n) || !isWithin(what, 0, 1)) {
            return BAD;
        }
        int best = NONE;
        int most = timesSaid(now, s, n);
        for (int p = 0; p < now.parrots; p++) {
            trial.becomes(now);
            trial.learn(p, s);
            int times = timesSaid(trial, s, n);
            if (times > most) {
                most = times;
                best = p;
            }
        }
        return choice(best, most, what);
    }

    public int away(int s, int n, int what) {
        if (!isSound(s) || !isDays(n) || !isWithin(what, 0, 1)) {
            return BAD;
        }
        int best = NONE;
        int fewest = timesSaid(now, s, n);
        for (int p = 0; p < now.parrots; p++) {
            trial.becomes(now);
            trial.removeParrot(p);
            int times = timesSaid(trial, s, n);
            if (times < fewest) {
                fewest = times;
                best = p;
            }
        }
        return choice(best, fewest, what);
    }

    public int swap(int s, int what) {
        if (!isSound(s) || !isWithin(what, 0, 1)) {
            return BAD;
        }
        int best = NONE;
        int soonest = firstSaid(now, s);
        for (int lesser = 0; lesser < now.parrots; lesser++) {
            for (int greater = lesser + 1; greater < now.parrots; greater++) {
                trial.becomes(now);
                trial.copyParrot(lesser, now, greater);
                trial.copyParrot(greater, now, lesser);
                int first = firstSaid(trial, s);
                if (first < soonest) {
                    soonest = first;
                    best = 10 * lesser + greater;
                }
            }
        }
        return choice(best, soonest, what);
    }

    public int far(int s, int n) {
        if (!isSound(s) || !isDays(n)) {
            return BAD;
        }
        trial.becomes(now);
        for (int v = LEAST_EAR; v <= MOST_EAR; v++) {
            trial.ear = v;
            foretell(trial, n);
            if (Integer.bitCount(runner.knowers(s)) == runner.parrots) {
                return v;
            }
        }
        return NONE;
    }

    public int kind(int p, int s, int n, int what) {
        if (!isParrot(p) || !isSound(s) || !isDays(n) || !isWithin(what, 0, 1)) {
            return BAD;
        }
        int best = NONE;
        int most = -1;
        trial.becomes(now);
        for (int v = 0; v < KINDS; v++) {
            trial.kind[p] = v;
            int times = timesSaid(trial, s, n);
            if (times > most) {
                most = times;
                best = v;
            }
        }
        return choice(best, most, what);
    }

    // ---- days under a cloth

    public long luck(int v, int p, int s, int n, int what) {
        if (!isParrot(p) || !isClothCall(v, s, n, what)) {
            return BAD;
        }
        return partOf(weighedKnowers(v, s, n, 1 << p), powerOf(10, n), what);
    }

    public long mean(int v, int s, int n, int what) {
        if (!isClothCall(v, s, n, what)) {
            return BAD;
        }
        return partOf(weighedKnowers(v, s, n, (1 << MOST_PARROTS) - 1), powerOf(10, n), what);
    }

    // ---- from what was said

    public int see(int n, int s) {
        if (!isWithin(n, 0, LAST_SEEN_DAY) || !isSound(s)) {
            return BAD;
        }
        if (seenNow.size >= MOST_SEEN) {
            return FULL;
        }
        seenNow.day[seenNow.size] = n;
        seenNow.sound[seenNow.size] = s;
        seenNow.size++;
        return seenNow.size;
    }

    public int forget(int n) {
        if (!isWithin(n, 0, seenNow.size)) {
            return BAD;
        }
        int were = seenNow.size;
        seenNow.size = n;
        return were;
    }

    public int kinds(int p) {
        if (!isParrot(p)) {
            return BAD;
        }
        int bits = 0;
        trial.becomes(now);
        for (int v = 0; v < KINDS; v++) {
            trial.kind[p] = v;
            if (isAsSeen(trial)) {
                bits |= 1 << v;
            }
        }
        return bits;
    }

    public int sounds(int p, int i) {
        if (!hasSound(p, i)) {
            return BAD;
        }
        int bits = 0;
        trial.becomes(now);
        for (int s = 0; s < SOUNDS; s++) {
            trial.setSound(p, i, s);
            if (isAsSeen(trial)) {
                bits |= 1 << s;
            }
        }
        return bits;
    }

    public int ask(int p, int i, int what) {
        if (!hasSound(p, i) || !isWithin(what, 0, 1)) {
            return BAD;
        }
        int best = NONE;
        int fewest = countHeard(p, i);
        for (int d = 0; d <= LAST_SEEN_DAY; d++) {
            int left = mostHeard(d);
            if (left < fewest) {
                fewest = left;
                best = d;
            }
        }
        return choice(best, fewest, what);
    }

    // ---- by a seed

    public int drift(int seed, int n, int what) {
        if (!isWithin(n, 1, MOST_DAYS) || !isWithin(what, 0, 1)) {
            return BAD;
        }
        if (now.parrots < 1) {
            return STATE;
        }
        int bits = 0;
        int last = NONE;
        int lot = seed;
        runner.becomes(now);
        for (int d = 0; d < n; d++) {
            lot = lot * 1103515245 + 12345;
            int got = (lot >>> 16) & 0x7fff;
            runner.learn(got % now.parrots, got / 8 % SOUNDS);
            last = runner.passDay();
            bits |= soundBit(last);
        }
        return what == 0 ? last : Integer.bitCount(bits);
    }

    // ---- images, sheets

    public int keep(int k) {
        if (!isWithin(k, 0, IMAGES - 1)) {
            return BAD;
        }
        Image image = images[k];
        int was = image.isThere ? 1 : 0;
        image.isThere = true;
        image.aviary.becomes(now);
        image.seen.becomes(seenNow);
        return was;
    }

    public int back(int k) {
        if (!isWithin(k, 0, IMAGES - 1)) {
            return BAD;
        }
        Image image = images[k];
        if (!image.isThere) {
            return STATE;
        }
        now.becomes(image.aviary);
        seenNow.becomes(image.seen);
        return now.day;
    }

    public int sheet(int k, int lane, int n) {
        if (!isSheet(k) || !isLane(lane) || n > MOST_CELLS) {
            return BAD;
        }
        if (n < 0) {
            return -10 - SIZE_FAULT;
        }
        rows[k].makeNew(lane, n);
        return 1;
    }

    public int lay(int k, int i, int v) {
        if (!isSheet(k)) {
            return BAD;
        }
        Sheet row = rows[k];
        if (row.lane == Sheet.NOTHING) {
            return -10 - NULL_FAULT;
        }
        if (!isWithin(i, 0, row.size - 1)) {
            return -10 - INDEX_FAULT;
        }
        row.cells[i] = row.narrowed(v);
        return 1;
    }

    public int read(int k, int lane, int f, int n) {
        if (!isSheet(k) || !isLane(lane) || !isWithin(n, 0, MOST_READ)) {
            return BAD;
        }
        Sheet row = rows[k];
        int whole = Math.min(n, row.wholePairs(lane, f));
        // all are looked at ahead of the first lesson, for one refused means that none came
        for (int i = 0; i < whole; i++) {
            if (!isParrot(row.cells[f + 2 * i]) || !isSound(row.cells[f + 2 * i + 1])) {
                return -20 - i;
            }
        }
        for (int i = 0; i < whole; i++) {
            now.learn(row.cells[f + 2 * i], row.cells[f + 2 * i + 1]);
        }
        readFault = row.faultOfReading(lane, whole, n);
        return whole;
    }

    public int torn() {
        return readFault;
    }

    public int count(int what) {
        switch (what) {
            case 0: return seenNow.size;
            case 1: return imagesThere();
            case 2: return tapeLength;
            case 3: return rows[0].lane == Sheet.NOTHING ? NONE : rows[0].size;
            case 4: return now.allSounds();
            case 5: return now.allPlaces();
            default: return BAD;
        }
    }

    // ---- what the calls share

    private static boolean isWithin(int v, int least, int most) {
        return v >= least && v <= most;
    }

    private static boolean isSound(int s) {
        return isWithin(s, 0, SOUNDS - 1);
    }

    private static boolean isKind(int v) {
        return isWithin(v, 0, KINDS - 1);
    }

    private static boolean isDays(int n) {
        return isWithin(n, 0, MOST_DAYS);
    }

    private static boolean isSheet(int k) {
        return isWithin(k, 0, SHEETS - 1);
    }

    private static boolean isLane(int lane) {
        return isWithin(lane, 0, LANES - 1);
    }

    private static boolean isClothCall(int v, int s, int n, int what) {
        return isWithin(v, 0, 10) && isSound(s) && isWithin(n, 0, MOST_CLOTH_DAYS)
                && isWithin(what, 0, 1);
    }

    private boolean isParrot(int p) {
        return isWithin(p, 0, now.parrots - 1);
    }

    private boolean hasSound(int p, int i) {
        return isParrot(p) && isWithin(i, 0, now.size[p] - 1);
    }

    /** On a DAY without PARROTS nothing is said, so nothing is counted. */
    private static int soundBit(int sound) {
        return isSound(sound) ? 1 << sound : 0;
    }

    private static int choice(int best, int worth, int what) {
        if (best == NONE) {
            return NONE;
        }
        return what == 0 ? best : worth;
    }

    private int imagesThere() {
        int there = 0;
        for (int k = 0; k < IMAGES; k++) {
            if (images[k].isThere) {
                there++;
            }
        }
        return there;
    }

    /** Leaves what is said in the n DAYS in said, and how all is behind them in runner. */
    private void foretell(Aviary start, int n) {
        runner.becomes(start);
        for (int d = 0; d < n; d++) {
            said[d] = runner.passDay();
        }
    }

    private int timesSaid(Aviary start, int s, int n) {
        foretell(start, n);
        int times = 0;
        for (int d = 0; d < n; d++) {
            if (said[d] == s) {
                times++;
            }
        }
        return times;
    }

    /** Behind all DAYS where there is none, so that any DAY is sooner than none. */
    private int firstSaid(Aviary start, int s) {
        foretell(start, MOST_DAYS + 1);
        for (int d = 0; d <= MOST_DAYS; d++) {
            if (said[d] == s) {
                return d;
            }
        }
        return MOST_DAYS + 1;
    }

    private boolean isAsSeen(Aviary start) {
        foretell(start, LAST_SEEN_DAY + 1);
        for (int i = 0; i < seenNow.size; i++) {
            if (said[seenNow.day[i]] != seenNow.sound[i]) {
                return false;
            }
        }
        return true;
    }

    /** Fills heard: by DAY and what is said in it, how many of the SOUNDS that may be are left. */
    private int countHeard(int p, int i) {
        for (int at = 0; at < heard.length; at++) {
            heard[at] = 0;
        }
        int candidates = 0;
        trial.becomes(now);
        for (int s = 0; s < SOUNDS; s++) {
            trial.setSound(p, i, s);
            if (isAsSeen(trial)) {
                candidates++;
                for (int d = 0; d <= LAST_SEEN_DAY; d++) {
                    if (isSound(said[d])) {
                        heard[d * SOUNDS + said[d]]++;
                    }
                }
            }
        }
        return candidates;
    }

    private int mostHeard(int d) {
        int most = 0;
        for (int s = 0; s < SOUNDS; s++) {
            most = Math.max(most, heard[d * SOUNDS + s]);
        }
        return most;
    }

    /** The mean of how many PARROTS among these bits KNOW the SOUND, times ten to the n. */
    private long weighedKnowers(int v, int s, int n, int among) {
        long sum = 0;
        for (int cloths = 0; cloths < 1 << n; cloths++) {
            int covered = Integer.bitCount(cloths);
            long weight = powerOf(v, covered) * powerOf(10 - v, n - covered);
            if (weight > 0) {
                sum += weight * Integer.bitCount(knowersBehind(cloths, s, n) & among);
            }
        }
        return sum;
    }

    private int knowersBehind(int cloths, int s, int n) {
        runner.becomes(now);
        for (int d = 0; d < n; d++) {
            if ((cloths >> d & 1) == 1) {
                runner.day++;
            } else {
                runner.passDay();
            }
        }
        return runner.knowers(s);
    }

    private static long powerOf(int base, int n) {
        long power = 1;
        for (int i = 0; i < n; i++) {
            power *= base;
        }
        return power;
    }

    private static long partOf(long top, long bottom, int what) {
        long a = bottom;
        long b = top;
        // Euclid's steps on numbers below ten to the nine are far fewer
        for (int i = 0; i < 100 && b != 0; i++) {
            long rest = a % b;
            a = b;
            b = rest;
        }
        long part = what == 0 ? top : bottom;
        return a == 0 ? part : part / a;
    }

    /** PARROTS, EAR, DAY. */
    private static final class Aviary {
        int parrots;
        int ear = LEAST_EAR;
        int day;
        final int[] kind = new int[MOST_PARROTS];
        final int[] size = new int[MOST_PARROTS];
        final int[] place = new int[MOST_PARROTS];
        final int[] memory = new int[MOST_PARROTS * MOST_IN_MEMORY];

        void makeEmpty() {
            parrots = 0;
            ear = LEAST_EAR;
            day = 0;
        }

        void becomes(Aviary other) {
            parrots = other.parrots;
            ear = other.ear;
            day = other.day;
            for (int p = 0; p < other.parrots; p++) {
                copyParrot(p, other, p);
            }
        }

        void copyParrot(int to, Aviary other, int from) {
            kind[to] = other.kind[from];
            size[to] = other.size[from];
            place[to] = other.place[from];
            System.arraycopy(other.memory, from * MOST_IN_MEMORY, memory, to * MOST_IN_MEMORY,
                    MOST_IN_MEMORY);
        }

        void addParrot(int itsKind) {
            kind[parrots] = itsKind;
            size[parrots] = 0;
            place[parrots] = 0;
            parrots++;
        }

        void removeParrot(int p) {
            for (int behind = p + 1; behind < parrots; behind++) {
                copyParrot(behind - 1, this, behind);
            }
            parrots--;
        }

        int speaker() {
            return parrots < 1 ? NONE : day % parrots;
        }

        int soundDue() {
            int p = speaker();
            return p == NONE ? NONE : soundAt(p, place[p]);
        }

        int passDay() {
            int p = speaker();
            int sound = soundDue();
            if (p != NONE) {
                place[p] = nextPlace(p);
                int last = Math.min(parrots - 1, p + ear);
                for (int other = Math.max(0, p - ear); other <= last; other++) {
                    if (other != p) {
                        learn(other, sound);
                    }
                }
            }
            day++;
            return sound;
        }

        int nextPlace(int p) {
            int last = size[p] - 1;
            if (kind[p] == SLY) {
                return place[p] > 0 ? place[p] - 1 : last;
            }
            int next = place[p] < last ? place[p] + 1 : 0;
            if (kind[p] == OLD) {
                next = next < last ? next + 1 : 0;
            }
            return next;
        }

        void learn(int p, int s) {
            if (kind[p] == OLD || kind[p] != YOUNG && hasInMemory(p, s)) {
                return;
            }
            if (kind[p] == SLY) {
                putAhead(p, s);
            } else {
                putBehind(p, s);
            }
        }

        void putAhead(int p, int s) {
            int kept = Math.min(size[p], MOST_IN_MEMORY - 1);
            int first = p * MOST_IN_MEMORY;
            for (int i = kept; i > 0; i--) {
                memory[first + i] = memory[first + i - 1];
            }
            memory[first] = s;
            size[p] = kept + 1;
        }

        void putBehind(int p, int s) {
            int first = p * MOST_IN_MEMORY;
            int kept = size[p];
            if (kept >= MOST_IN_MEMORY) {
                kept = MOST_IN_MEMORY - 1;
                for (int i = 0; i < kept; i++) {
                    memory[first + i] = memory[first + i + 1];
                }
            }
            memory[first + kept] = s;
            size[p] = kept + 1;
        }

        int soundAt(int p, int i) {
            return memory[p * MOST_IN_MEMORY + i];
        }

        void setSound(int p, int i, int s) {
            memory[p * MOST_IN_MEMORY + i] = s;
        }

        boolean hasInMemory(int p, int s) {
            int first = p * MOST_IN_MEMORY;
            for (int i = 0; i < size[p]; i++) {
                if (memory[first + i] == s) {
                    return true;
                }
            }
            return false;
        }

        int soundsKnown(int p) {
            int bits = 0;
            for (int i = 0; i < size[p]; i++) {
                bits |= 1 << soundAt(p, i);
            }
            return bits;
        }

        int knowers(int s) {
            int bits = 0;
            for (int p = 0; p < parrots; p++) {
                if (hasInMemory(p, s)) {
                    bits |= 1 << p;
                }
            }
            return bits;
        }

        int allSizes() {
            int sum = 0;
            for (int p = 0; p < parrots; p++) {
                sum += size[p];
            }
            return sum;
        }

        int allSounds() {
            int sum = 0;
            for (int p = 0; p < parrots; p++) {
                for (int i = 0; i < size[p]; i++) {
                    sum += soundAt(p, i);
                }
            }
            return sum;
        }

        int allPlaces() {
            int sum = 0;
            for (int p = 0; p < parrots; p++) {
                sum += place[p];
            }
            return sum;
        }
    }

    /** What was SEEN: DAYS from now on, each with the SOUND that is said in it. */
    private static final class Seen {
        int size;
        final int[] day = new int[MOST_SEEN];
        final int[] sound = new int[MOST_SEEN];

        void becomes(Seen other) {
            size = other.size;
            for (int i = 0; i < other.size; i++) {
                day[i] = other.day[i];
                sound[i] = other.sound[i];
            }
        }
    }

    private static final class Image {
        boolean isThere;
        final Aviary aviary = new Aviary();
        final Seen seen = new Seen();
    }

    /** Cells of every lane are held as ints that have been narrowed to it. */
    private static final class Sheet {
        static final int NOTHING = -1;
        static final int BYTES = 0, SHORTS = 1;

        int lane = NOTHING;
        int size;
        final int[] cells = new int[MOST_CELLS];

        void makeNew(int itsLane, int n) {
            lane = itsLane;
            size = n;
            for (int i = 0; i < n; i++) {
                cells[i] = 0;
            }
        }

        int narrowed(int v) {
            switch (lane) {
                case BYTES: return (byte) v;
                case SHORTS: return (short) v;
                default: return v;
            }
        }

        int wholePairs(int itsLane, int f) {
            boolean canBegin = lane == itsLane && f >= 0 && f < size;
            return canBegin ? (size - f) / 2 : 0;
        }

        /** Each pair is taken as of a lane as it is read: where none was left to read, nothing is refused. */
        int faultOfReading(int itsLane, int whole, int n) {
            if (whole >= n) {
                return 0;
            }
            if (lane == NOTHING) {
                return NULL_FAULT;
            }
            return lane == itsLane ? INDEX_FAULT : CAST_FAULT;
        }
    }

    /** Reads a text TOKEN by TOKEN; a FAULT stands at the TOKEN read latest. */
    private static final class TextReader {
        static final int NAME = 1, NUMBER = 2, SEMICOLON = 3, END = 4;
        static final int NO_LINE = -1, EAR_LINE = 4;
        static final int NO_TOKEN = 1, OUT_OF_PLACE = 2, OUT_OF_BOUNDS = 3, EAR_AGAIN = 4, TOO_MANY = 5;

        byte[] bytes = new byte[0];
        int length;
        Aviary told = new Aviary();
        boolean earTold;
        int fault;
        int token;
        int from;
        int to;
        int value;

        int readText(byte[] tape, int tapeLength, Aviary into) {
            bytes = tape;
            length = Math.min(tapeLength, tape.length);
            told = into;
            told.makeEmpty();
            earTold = false;
            fault = 0;
            to = 0;
            int lines = 0;
            nextToken();
            while (fault == 0 && token != END && lines <= MOST_BYTES) {
                takeLine();
                lines++;
                nextToken();
            }
            return lines;
        }

        void takeLine() {
            int line = token == NAME ? lineNamed() : NO_LINE;
            fault = faultOfLine(line);
            nextToken();
            if (fault == 0 && token != NUMBER) {
                fault = OUT_OF_PLACE;
            }
            if (fault == 0 && line == EAR_LINE) {
                takeEar();
            } else if (fault == 0) {
                takeParrot(line);
            }
            if (fault == 0 && token != SEMICOLON) {
                fault = OUT_OF_PLACE;
            }
        }

        int faultOfLine(int line) {
            if (line == NO_LINE) {
                return OUT_OF_PLACE;
            }
            if (line == EAR_LINE) {
                return earTold ? EAR_AGAIN : 0;
            }
            return told.parrots >= MOST_PARROTS ? TOO_MANY : 0;
        }

        void takeEar() {
            if (!isWithin(value, LEAST_EAR, MOST_EAR)) {
                fault = OUT_OF_BOUNDS;
                return;
            }
            earTold = true;
            told.ear = value;
            nextToken();
        }

        void takeParrot(int kind) {
            told.addParrot(kind);
            for (int i = 0; i <= MOST_IN_MEMORY && fault == 0 && token == NUMBER; i++) {
                takeSound(told.parrots - 1);
                nextToken();
            }
        }

        void takeSound(int p) {
            if (told.size[p] >= MOST_IN_MEMORY) {
                fault = TOO_MANY;
            } else if (!isSound(value)) {
                fault = OUT_OF_BOUNDS;
            } else {
                told.putBehind(p, value);
            }
        }

        /** Stays where it is once there is a FAULT, so that its place is kept. */
        void nextToken() {
            if (fault != 0) {
                return;
            }
            from = to;
            while (from < length && bytes[from] == ' ') {
                from++;
            }
            to = from;
            if (from >= length) {
                token = END;
            } else if (isLetter(from)) {
                token = NAME;
                while (to < length && isLetter(to)) {
                    to++;
                }
            } else if (isFigure(from)) {
                takeNumber();
            } else if (bytes[from] == ';') {
                token = SEMICOLON;
                to++;
            } else {
                fault = NO_TOKEN;
            }
        }

        void takeNumber() {
            token = NUMBER;
            value = 0;
            while (to < length && isFigure(to)) {
                value = value * 10 + bytes[to] - '0';
                to++;
            }
            if (to - from > 2) {
                fault = NO_TOKEN;
            }
        }

        boolean isLetter(int at) {
            return bytes[at] >= 'a' && bytes[at] <= 'z';
        }

        boolean isFigure(int at) {
            return bytes[at] >= '0' && bytes[at] <= '9';
        }

        int lineNamed() {
            if (isNamed("plain")) {
                return PLAIN;
            }
            if (isNamed("old")) {
                return OLD;
            }
            if (isNamed("young")) {
                return YOUNG;
            }
            if (isNamed("sly")) {
                return SLY;
            }
            return isNamed("ear") ? EAR_LINE : NO_LINE;
        }

        boolean isNamed(String name) {
            if (to - from != name.length()) {
                return false;
            }
            for (int i = 0; i < name.length(); i++) {
                if (bytes[from + i] != name.charAt(i)) {
                    return false;
                }
            }
            return true;
        }
    }
}
