/** Boundaries of days under a cloth, what was SEEN, seeds, IMAGES and SHEETS: Terms, promises 26 to 40. */
public final class BoundaryRestTest {
    private static final int BAD = Boundary.BAD, STATE = Boundary.STATE, FULL = Boundary.FULL, NONE = Boundary.NONE;
    private static final int LEAST = Boundary.LEAST, MOST = Boundary.MOST;
    private static final int TERMS = Boundary.TERMS;
    private static final String BUSY = Boundary.BUSY, FIVE = Boundary.FIVE;
    /** In DAYS 0 to 3 and 5 to 7 the young one hears a 1; behind six of these it has forgotten its 7. */
    private static final String HEARER = "text old 1;old 1;old 1;old 1;young 2 3 4 5 6 7;ear 4;";
    /** SHEET 2: three pairs that teach() takes, and a CELL. */
    private static final String PAIRS = "text young 0;sly 1;old 2; | sheet(2, 1, 7) | lay(2, 1, 3) | lay(2, 2, 1)"
            + " | lay(2, 3, 4) | lay(2, 4, 2) | lay(2, 5, 5)";
    private static final String TAUGHT = " | teach(0, 3) | teach(1, 4) | teach(2, 5)";
    /** SHEET 0: forty CELLS. */
    private static final String FORTY = "text young 5; | sheet(0, 0, 40)";

    private static final Boundary at = new Boundary("BoundaryRestTest");

    /** A call whose last argument, 0 or 1, asks for either part of a fraction. */
    private static void fraction(String run, String call, long top, long bottom) {
        at.is(run, call.replace("#", "0"), top);
        at.is(run, call.replace("#", "1"), bottom);
    }

    private static void p26Luck() {
        String two = "text plain 1;plain 2;";
        at.sentence(26, "they are under a cloth by v out of ten (0 to 10), by itself");
        fraction(two, "luck(0, 1, 1, 1, #)", 1, 1);
        fraction(two, "luck(1, 1, 1, 1, #)", 9, 10);
        fraction(two, "luck(9, 1, 1, 1, #)", 1, 10);
        fraction(two, "luck(10, 1, 1, 1, #)", 0, 1);
        at.outside(two, "luck(#, 1, 1, 1, 0)", 0, 10);
        at.outside(BUSY, "luck(#, 1, 1, 1, 1)", 0, 10);
        at.sentence(26, "On each of n DAYS (0 to 8)");
        fraction(two, "luck(5, 1, 1, 0, #)", 0, 1);
        fraction(two, "luck(5, 1, 1, 1, #)", 1, 2);
        fraction(two, "luck(5, 1, 1, 2, #)", 1, 2);
        fraction(two, "luck(5, 1, 1, 3, #)", 3, 4);
        String fromOne = "days(1) | perch(0, 1) | perch(0, 2)";
        fraction(fromOne, "luck(5, 1, 1, 1, #)", 0, 1);
        fraction(fromOne, "luck(5, 1, 1, 7, #)", 7, 8);
        fraction(fromOne, "luck(5, 1, 1, 8, #)", 15, 16);
        // all but six of six: 1 - 0.531441; all but six and seven of seven: 1 - 0.8503056, 1 - 0.0000064
        fraction(HEARER, "luck(1, 4, 7, 7, #)", 468559, 1000000);
        fraction(HEARER, "luck(1, 4, 7, 8, #)", 93559, 625000);
        fraction(HEARER, "luck(9, 4, 7, 8, #)", 156249, 156250);
        at.outside(two, "luck(5, 1, 1, #, 0)", 0, 8);
        at.outside(BUSY, "luck(5, 1, 1, #, 1)", 0, 8);
        at.sentence(26, "(nothing is said, DAY is 1 more)");
        // in DAY 0 alone the first of three speaks, in DAY 1 the second, under a cloth or not
        String three = "text old 7;old 8;young 5;ear 2;";
        fraction(three, "luck(5, 2, 8, 1, #)", 0, 1);
        fraction(three, "luck(5, 2, 8, 2, #)", 1, 2);
        fraction(three, "luck(5, 2, 8, 4, #)", 1, 2);
        fraction(three, "luck(5, 2, 8, 5, #)", 3, 4);
        fraction(three, "luck(10, 2, 8, 8, #)", 0, 1);
        at.sentence(26, "that a PARROT KNOWS a SOUND behind them: 0, 1. BAD.");
        at.calls(FIVE, "luck(5, #, 4, 0, 0)", 0, 0, 0, 0, 0, 1);
        at.outside(FIVE, "luck(5, #, 4, 0, 0)", 0, 4);
        at.outside(BUSY, "luck(5, #, 4, 0, 0)", 0, 3);
        at.calls("text old 0 9;", "luck(5, 0, #, 8, 0)", 0, 1, 0);
        at.calls("text old 0 9;", "luck(5, 0, #, 8, 0)", 8, 0, 1);
        at.outside(BUSY, "luck(5, 0, #, 2, 0)", 0, 9);
        at.outside(BUSY, "luck(5, 0, 4, 2, #)", 0, 1);
        at.outside("", "luck(5, #, 4, 0, 0)", 0, -1);
        at.sentence(TERMS, "Fractions are in lowest terms, the denominator above 0 (0 is 0 by 1).");
        fraction(two, "luck(4, 1, 1, 1, #)", 3, 5);
        fraction(two, "luck(5, 1, 9, 8, #)", 0, 1);
        fraction(two, "luck(10, 1, 1, 8, #)", 0, 1);
        fraction(two, "luck(5, 1, 2, 8, #)", 1, 1);
        fraction("", "mean(5, 1, 8, #)", 0, 1);
    }

    private static void p27Mean() {
        at.sentence(27, "Likewise, the mean of how many PARROTS KNOW it: 0, 1. BAD.");
        String all = FIVE + "ear 4;";
        fraction(all, "mean(0, 0, 1, #)", 5, 1);
        fraction(all, "mean(1, 0, 1, #)", 23, 5);
        fraction(all, "mean(9, 0, 1, #)", 7, 5);
        fraction(all, "mean(10, 0, 1, #)", 1, 1);
        at.outside(all, "mean(#, 0, 1, 0)", 0, 10);
        fraction(all, "mean(1, 0, 0, #)", 1, 1);
        fraction(all, "mean(0, 0, 8, #)", 5, 1);
        fraction(HEARER, "mean(1, 7, 7, #)", 468559, 1000000);
        fraction(HEARER, "mean(1, 7, 8, #)", 93559, 625000);
        at.outside(all, "mean(1, 0, #, 0)", 0, 8);
        fraction(all, "mean(5, 9, 8, #)", 0, 1);
        fraction("text old 9;old 9;", "mean(5, 9, 8, #)", 2, 1);
        at.outside(all, "mean(5, #, 1, 0)", 0, 9);
        at.outside(all, "mean(5, 0, 1, #)", 0, 1);
        at.outside(BUSY, "mean(5, 0, #, 0)", 0, 8);
        fraction("", "mean(0, 0, 0, #)", 0, 1);
        at.outside("", "mean(5, 0, #, 0)", 0, 8);
    }

    private static void p28See() {
        at.sentence(28, "SEEN: in DAY n (0 to 20) SOUND s is said: how many are. BAD; FULL.");
        at.calls(BUSY, "see(#, 5)", 0, 3, 3);
        at.calls(BUSY, "see(#, 5)", 19, 3, 3);
        at.outside(BUSY, "see(#, 5)", 0, 20);
        at.calls("", "see(0, #)", 0, 1, 1);
        at.calls("", "see(0, #)", 8, 1, 1);
        at.outside(BUSY, "see(0, #)", 0, 9);
        at.outside("", "see(#, 0)", 0, 20);
        at.sentence(TERMS, "SEEN (6): in DAY n (0 to 20) from now on SOUND s is said.");
        at.calls("text plain 1 2 3; | see(0, 1)", "kinds(#)", 0, 15);
        at.calls("text plain 1 2 3; | see(0, 2)", "kinds(#)", 0, 0);
        // in DAY 19 plain and young say 2, old and sly 3; in DAY 20 the other way about
        at.is("text plain 1 2 3; | see(19, 2)", "kinds(0)", 5);
        at.is("text plain 1 2 3; | see(20, 3)", "kinds(0)", 5);
        at.is("text plain 1 2 3; | see(20, 2)", "kinds(0)", 10);
        // by DAYS from now on, whichever DAY it is when it is asked
        at.is("text plain 1 2 3; | see(1, 2) | days(1)", "kinds(0)", 0);
        at.is("text plain 1 2 3; | see(1, 2) | days(3)", "kinds(0)", 5);
        for (int n = 0; n < 6; n++) {
            String run = n == 0 ? "text old 4;" : "text old 4; | see(20, 4) x" + n;
            at.is(run, "see(0, 4)", n + 1);
            at.is(run, "count(0)", n);
        }
        String six = "text old 4; | see(20, 4) x6";
        at.is(six, "see(0, 4)", FULL);
        at.is(six, "see(20, 4)", FULL);
        at.is(six, "see(0, 5)", FULL);
        at.is(six, "kinds(0)", 15);
        at.is("text old 4; | see(20, 4) x5 | see(20, 5)", "kinds(0)", 0);
        at.is(six + " | forget(5)", "see(0, 5)", 6);
        at.sentence(TERMS, "the first that fits");
        at.outside(six, "see(#, 4)", 0, 20);
        at.outside(six, "see(0, #)", 0, 9);
    }

    private static void p29Forget() {
        at.sentence(29, "SEEN are the first n alone: how many there were. BAD.");
        String three = "text plain 1 2 3; | see(0, 1) | see(1, 2) | see(2, 9)";
        at.calls(three, "forget(#)", 0, 3, 3, 3, 3);
        at.outside(three, "forget(#)", 0, 3);
        at.becomes(three, "forget(3)", 3, three);
        at.becomes(three, "forget(2)", 3, "text plain 1 2 3; | see(0, 1) | see(1, 2)");
        at.becomes(three, "forget(1)", 3, "text plain 1 2 3; | see(0, 1)");
        at.becomes(three, "forget(0)", 3, "text plain 1 2 3;");
        at.outside(three + " | forget(2)", "forget(#)", 0, 2);
        at.is("", "forget(0)", 0);
        at.outside("", "forget(#)", 0, 0);
        at.outside(BUSY, "forget(#)", 0, 2);
        at.calls("see(0, 1) x6", "forget(#)", 5, 6, 6, BAD);
    }

    private static void p30Kinds() {
        at.sentence(30, "KINDS of a PARROT (bits) by which, all else as it is, all is as SEEN. BAD.");
        at.calls(FIVE, "kinds(#)", 0, 15, 15, 15, 15, 15);
        at.outside(FIVE, "kinds(#)", 0, 4);
        at.outside(BUSY, "kinds(#)", 0, 3);
        at.outside("", "kinds(#)", 0, -1);
        at.is("text plain 1 2 3; | see(1, 2)", "kinds(0)", 5);
        at.is("text plain 1 2 3; | see(1, 3)", "kinds(0)", 10);
        at.is("text plain 1 2 3; | see(1, 2) | see(2, 2)", "kinds(0)", 0);
        at.is("text plain 1 2 3 4; | see(1, 4)", "kinds(0)", 8);
        at.is("text plain 1 2 3 4; | see(1, 3)", "kinds(0)", 2);
    }

    private static void p31Sounds() {
        at.sentence(31, "SOUNDS (bits) that may be the i-th one of the MEMORY of a PARROT, all else as it is, so that all is as SEEN. BAD (also, if it has not so many).");
        for (int size = 1; size <= 6; size++) {
            String run = "text plain 5;old" + " 0 1 2 3 4 5".substring(0, 2 * size) + ";";
            at.is(run, "parrot(1, 1)", size);
            at.is(run, "sounds(1, 0)", 1023);
            at.is(run, "sounds(1, " + (size - 1) + ")", 1023);
            at.outside(run, "sounds(1, #)", 0, size - 1);
            at.outside(run, "sounds(0, #)", 0, 0);
            at.outside(run, "sounds(#, 0)", 0, 1);
        }
        at.outside(FIVE, "sounds(#, 0)", 0, 4);
        at.outside(BUSY, "sounds(1, #)", 0, 2);
        at.outside("", "sounds(#, 0)", 0, -1);
        at.is("text old 1 2 3; | see(0, 0)", "sounds(0, 0)", 1);
        at.is("text old 1 2 3; | see(0, 9)", "sounds(0, 0)", 512);
        at.is("text old 1 2 3; | see(0, 9)", "sounds(0, 1)", 0);
        at.is("text old 1 2 3; | see(0, 9) | see(3, 8)", "sounds(0, 0)", 0);
        // in DAY 20 it says its second
        at.is("text old 1 2 3; | see(20, 7)", "sounds(0, 1)", 128);
    }

    private static void p32Ask() {
        at.sentence(32, "The DAY (0 to 20) in which to listen what is said, so that of these SOUNDS fewest are left at the worst, fewer than now, the first (what 0), how many these are (1).");
        at.calls("text old 1 2 3;", "ask(0, #, 0)", 0, 0, 2, 1);
        at.calls("text old 1 2 3;", "ask(0, #, 1)", 0, 1, 1, 1);
        String in20 = "text sly 1 2 3 4 5 6;old 1;old 1;old 1;";
        at.is(in20, "ask(0, 1, 0)", 20);
        at.is(in20, "ask(0, 1, 1)", 1);
        // a DAY later it says it, which is one too late
        at.is("text old 1;sly 1 2 3 4 5 6;old 1;old 1;", "ask(1, 1, 0)", NONE);
        at.is("text old 1;sly 1 2 3 4 5 6;old 1;old 1;", "ask(1, 1, 1)", NONE);
        // if it is 0 already, 0 does not come behind all for DAY 5: of ten nine are left at the worst
        String zero = "text old 0;plain 1 2 3 7 4;old 0;old 0; | turn(1, 4)";
        at.is(zero, "ask(1, 3, 0)", 5);
        at.is(zero, "ask(1, 3, 1)", 9);
        at.sentence(32, "BAD (also, if it has not so many); NONE: none.");
        at.outside("text old 1 2 3;", "ask(0, #, 0)", 0, 2);
        at.outside("text old 1 2 3;", "ask(0, 2, #)", 0, 1);
        at.outside(FIVE, "ask(#, 0, 0)", 0, 4);
        at.outside(BUSY, "ask(#, 0, 0)", 0, 3);
        at.outside(BUSY, "ask(1, #, 1)", 0, 2);
        at.outside("", "ask(#, 0, 0)", 0, -1);
        // one that is left can not be fewer; nor can none
        at.is("text old 1; | see(0, 1)", "ask(0, 0, 0)", NONE);
        at.is("text old 1; | see(0, 1)", "ask(0, 0, 1)", NONE);
        at.is("text old 1; | see(0, 1) | see(1, 2)", "ask(0, 0, 0)", NONE);
        // its second is never said, so that nothing tells them apart
        at.is("text old 1 2;", "ask(0, 1, 0)", NONE);
        at.is("text old 1 2;", "ask(0, 1, 1)", NONE);
        at.is("text old 0 1;", "ask(0, 1, 0)", NONE);
        at.is("text old 9 1;", "ask(0, 1, 0)", NONE);
    }

    /** What is got of a seed in one step, in numbers that do not wrap. */
    private static long got(int seed) {
        return Math.floorMod(seed * 1103515245L + 12345, 1L << 31) >> 16;
    }

    private static void p33Drift() {
        at.sentence(33, "n DAYS (1 to 60) by a seed");
        // an old one of five learns nothing: in its n-th DAY it says the one that twice n less 1 leaves by 5
        String old = "text old 0 1 2 3 4;";
        at.calls(old, "drift(1, #, 0)", 1, 0, 2, 4, 1, 3);
        at.calls(old, "drift(1, #, 0)", 59, 1, 3);
        at.calls(old, "drift(1, #, 1)", 1, 1, 2, 3, 4, 5, 5);
        at.calls(old, "drift(1, #, 1)", 59, 5, 5);
        at.outside(old, "drift(1, #, 0)", 1, 60);
        at.outside(BUSY, "drift(1, #, 1)", 1, 60);
        at.outside(BUSY, "drift(1, 60, #)", 0, 1);
        at.sentence(33, "the seed becomes seed times 1103515245 and 12345; bits 16 to 30 of it are got: PARROT got modulo PARROTS LEARNS SOUND got by 8 (down) modulo 10 ahead of it");
        for (int seed : new int[] {LEAST, LEAST + 1, -2, -1, 0, 1, 2, 7, 13, 15, MOST - 1, MOST,
            42627, 47902, 65536, 123456789, -987654321}) {
            long got = got(seed);
            for (int parrots = 1; parrots <= 5; parrots++) {
                for (int turn = 0; turn < parrots; turn++) {
                    // sly ones that have but 0: the one that learnt says it at once, if it is its DAY
                    String run = "days(" + turn + ") | perch(3, 0) x" + parrots;
                    at.is(run, "drift(" + seed + ", 1, 0)", turn == got % parrots ? got / 8 % 10 : 0);
                    at.is(run, "drift(" + seed + ", 1, 1)", 1);
                }
            }
        }
        at.sentence(33, "what is said in the last of them (what 0), how many unlike SOUNDS are said in them (1)");
        at.calls("text old 7;old 8;", "drift(5, #, 0)", 1, 7, 8, 7);
        at.calls("text old 7;old 8;", "drift(5, #, 1)", 1, 1, 2, 2);
        at.sentence(33, "STATE: there are no PARROTS.");
        at.is("", "drift(1, 1, 0)", STATE);
        at.is("", "drift(1, 60, 1)", STATE);
        at.is(BUSY + " | sell(0)", "drift(1, 1, 0)", STATE);
        at.is(BUSY + " | sell(1) | perch(1, 7) | sell(1)", "drift(1, 1, 1)", 1);
        at.sentence(TERMS, "the first that fits");
        at.outside("", "drift(1, #, 0)", 1, 60);
        at.outside("", "drift(1, 1, #)", 0, 1);
    }

    private static void p34Keep() {
        at.sentence(34, "whether there was one (1, 0). BAD.");
        at.calls("text old 1;", "keep(#)", 0, 0, 0);
        at.outside("text old 1;", "keep(#)", 0, 1);
        at.is("text old 1; | keep(0)", "keep(0)", 1);
        at.is("text old 1; | keep(0)", "keep(1)", 0);
        at.is("text old 1; | keep(1)", "keep(0)", 0);
        at.is("text old 1; | keep(1)", "keep(1)", 1);
        at.calls(BUSY, "keep(#)", 0, 1, 1);
        at.outside(BUSY, "keep(#)", 0, 1);
        at.calls("", "keep(#)", 0, 0, 0);
        at.is("text old 1; | keep(0) | text old 1;", "keep(0)", 0);
        at.becomes("text old 1; | keep(0)", "keep(0)", 1, "text old 1; | keep(0)");
        at.becomes("text old 1; | keep(0) | days(1)", "keep(0)", 1, "text old 1; | days(1) | keep(0)");
        at.sentence(34, "IMAGE k (0, 1) is PARROTS (all of them), EAR, DAY, what was SEEN");
        // what is changed behind it does not change it
        at.is("text old 1 2;ear 2; | keep(0) | sell(0) | ear(4) | days(9) | see(0, 0)", "back(0)", 0);
        at.becomes("text old 1 2;ear 2; | keep(0) | sell(0) | ear(4) | days(9) | see(0, 0) x6", "back(0)", 0,
                "text old 1 2;ear 2; | keep(0)");
    }

    private static void p35Back() {
        at.sentence(35, "All is as IMAGE k: DAY. BAD; STATE: there is none.");
        at.calls("", "back(#)", 0, STATE, STATE);
        at.outside("", "back(#)", 0, 1);
        at.is("text old 1; | keep(0)", "back(1)", STATE);
        at.is("text old 1; | keep(1)", "back(0)", STATE);
        at.outside("text old 1; | keep(0) | keep(1)", "back(#)", 0, 1);
        at.calls(BUSY, "back(#)", 0, 5, 0);
        at.outside(BUSY, "back(#)", 0, 1);
        String kept = BUSY.replace(" | days(2) | forget(0) | see(0, 0) | see(3, 6)", "");
        at.becomes(BUSY, "back(0)", 5, kept);
        at.becomes(kept, "back(0)", 5, kept);
        at.becomes(BUSY + " | back(0) | days(1)", "back(0)", 5, kept);
        at.becomes("keep(0) | " + FIVE.replace("text", "feed"), "back(0)", 0, "keep(0) | " + FIVE.replace("text", "feed"));
        at.becomes("keep(0) | perch(0, 1) x5 | days(3) | see(0, 1)", "back(0)", 0, "keep(0)");
        at.is("text old 1; | days(30) x33 | days(9) | keep(1) | text old 2;", "back(1)", STATE);
        at.is("text old 1; | days(30) x33 | days(9) | keep(1) | sell(0)", "back(1)", 999);
    }

    private static void p36Sheet() {
        at.sentence(36, "A SHEET is a new row of CELLS 0: 1. BAD: also n above 40; -10 - 4.");
        at.calls("", "sheet(0, 0, #)", 0, 1, 1);
        at.calls("", "sheet(0, 0, #)", 39, 1, 1, BAD, BAD);
        at.calls("", "sheet(0, 0, #)", -2, -14, -14);
        at.calls("sheet(0, 0, 0)", "count(#)", 3, 0);
        at.calls("sheet(0, 0, 1)", "count(#)", 3, 1);
        at.calls("sheet(0, 0, 40)", "count(#)", 3, 40);
        at.is(BUSY, "sheet(0, 0, " + LEAST + ")", -14);
        at.is(BUSY, "sheet(0, 0, -1)", -14);
        at.is(BUSY, "sheet(0, 0, 41)", BAD);
        at.is(BUSY, "sheet(0, 0, " + MOST + ")", BAD);
        at.is(BUSY, "sheet(3, 2, -1)", -14);
        at.is(BUSY, "sheet(3, 2, 41)", BAD);
        at.calls(BUSY, "sheet(#, 1, 2)", 0, 1, 1, 1, 1);
        at.outside(BUSY, "sheet(#, 1, 2)", 0, 3);
        at.calls(BUSY, "sheet(1, #, 2)", 0, 1, 1, 1);
        at.outside(BUSY, "sheet(1, #, 2)", 0, 2);
        for (int lane = 0; lane < 3; lane++) {
            String made = "sheet(1, " + lane + ", 4)";
            at.becomes("sheet(1, 0, 6) | lay(1, 0, 1) | lay(1, 3, 7) | lay(1, 5, 7)", made, 1, made);
        }
        at.sentence(TERMS, "SHEETS 0 to 3 are rows of BYTES (lane 0), SHORTS (1), INTS (2) with 0 to 40 CELLS, or nothing (at first).");
        for (int k = 0; k < 4; k++) {
            String run = "sheet(" + k + ", " + k % 3 + ", 40)";
            at.is("", "lay(" + k + ", 0, 0)", -11);
            at.is("sheet(" + k + ", 0, 0)", "lay(" + k + ", 0, 0)", -12);
            at.calls(run, "lay(" + k + ", #, 0)", -1, -12, 1);
            at.calls(run, "lay(" + k + ", #, 0)", 38, 1, 1, -12);
            at.is(run, "lay(" + (k + 1) % 4 + ", 0, 0)", -11);
        }
        at.sentence(TERMS, "the first that fits");
        at.outside("", "sheet(#, 1, -1)", 0, 3);
        at.outside("", "sheet(1, #, -1)", 0, 2);
    }

    private static void p37Lay() {
        at.sentence(37, "BAD: k; -10 less the FAULT: NULL, INDEX.");
        at.outside("", "lay(#, 0, 0)", 0, 3);
        at.outside(BUSY, "lay(#, 0, 0)", 0, 3);
        at.calls(BUSY, "lay(0, #, 1)", -2, -12, -12, 1, 1);
        at.calls(BUSY, "lay(0, #, 1)", 4, 1, 1, -12, -12);
        at.is(BUSY, "lay(0, " + LEAST + ", 1)", -12);
        at.is(BUSY, "lay(0, " + MOST + ", 1)", -12);
        at.calls(BUSY, "lay(2, #, 1)", -1, -12, -12, -12);
        at.calls(BUSY, "lay(3, #, 1)", -1, -11, -11, -11);
        at.is(BUSY, "lay(3, " + MOST + ", 1)", -11);
        at.outside(BUSY, "lay(#, -1, 0)", 0, 3);
        at.sentence(37, "CELL i of a SHEET becomes v (its lowest bits): 1.");
        at.becomes("sheet(0, 0, 2)", "lay(0, 1, 7)", 1, "sheet(0, 0, 2) | lay(0, 1, 7)");
        int[][] kept = {{7, 7, 7, 7}, {255 + 1 + 7, 7, -1, -1}, {-256 + 7, 7, -1, -1}, {128 + 7, -1, -1, -1},
            {-128 + 7, -1, -1, -1}, {65536 + 7, 7, 7, -1}, {-65536 + 7, 7, 7, -1}, {32768 + 7, 7, -1, -1},
            {LEAST + 7, 7, 7, -1}, {MOST, -1, -1, -1}, {LEAST, 0, 0, -1}, {-1, -1, -1, -1}, {10, -1, -1, -1},
            {9, 9, 9, 9}, {0, 0, 0, 0}, {265, 9, -1, -1}, {266, -1, -1, -1}};
        for (int[] row : kept) {
            for (int lane = 0; lane < 3; lane++) {
                String run = "text young 5; | sheet(1, " + lane + ", 2) | lay(1, 1, " + row[0] + ")";
                String read = "read(1, " + lane + ", 0, 1)";
                int sound = row[1 + lane];
                at.is(run, read, sound < 0 ? -20 : 1);
                at.is(run + " | " + read, "parrot(0, 11)", sound < 0 ? NONE : sound);
            }
        }
    }

    private static void p38Read() {
        at.sentence(38, "n (0 to 20) times a PARROT, a SOUND are read of a SHEET taken as of a lane, two CELLS each from CELL f on, one behind another as by teach(): how many came.");
        at.calls(PAIRS, "read(2, 1, 0, #)", 0, 0, 1, 2, 3, 3);
        at.outside(PAIRS, "read(2, 1, 0, #)", 0, 20);
        at.outside(BUSY, "read(0, 0, 0, #)", 0, 20);
        at.calls(FORTY, "read(0, 0, 0, #)", 19, 19, 20);
        at.becomes(PAIRS, "read(2, 1, 0, 3)", 3, PAIRS + TAUGHT);
        at.becomes(PAIRS, "read(2, 1, 0, 2)", 2, PAIRS + " | teach(0, 3) | teach(1, 4)");
        at.becomes(PAIRS, "read(2, 1, 2, 2)", 2, PAIRS + " | teach(1, 4) | teach(2, 5)");
        at.becomes(PAIRS, "read(2, 1, 0, 0)", 0, PAIRS);
        at.becomes(FORTY, "read(0, 0, 0, 20)", 20, FORTY + " | teach(0, 0) x20");
        at.sentence(38, "What the machine refuses: those that were whole ahead came (its FAULT is asked by torn()).");
        // the reads of CELL 99 behind the others are there for torn() to be the same
        String torn = " | read(2, 1, 99, 1)";
        at.becomes(PAIRS, "read(2, 1, 0, 4)", 3, PAIRS + TAUGHT + torn);
        at.becomes(PAIRS, "read(2, 1, 0, 20)", 3, PAIRS + TAUGHT + torn);
        at.becomes(PAIRS, "read(2, 1, 4, 2)", 1, PAIRS + " | teach(2, 5)" + torn);
        for (int f : new int[] {LEAST, LEAST + 1, -7, -2, -1, 6, 7, 8, 40, MOST - 1, MOST}) {
            at.becomes(PAIRS, "read(2, 1, " + f + ", 1)", 0, PAIRS + torn);
            at.becomes(PAIRS, "read(2, 1, " + f + ", 20)", 0, PAIRS + torn);
            at.becomes(PAIRS, "read(2, 1, " + f + ", 0)", 0, PAIRS);
        }
        at.is(PAIRS, "read(2, 1, 5, 1)", -20);
        at.calls(FORTY, "read(0, 0, #, 20)", 0, 20, 19, 19, 18);
        at.calls(FORTY, "read(0, 0, #, 1)", 37, 1, 1, 0, 0);
        at.is(FORTY + " | read(0, 0, 1, 20)", "torn()", 2);
        at.is(FORTY + " | read(0, 0, 38, 1)", "torn()", 0);
        at.is(FORTY + " | read(0, 0, 39, 1)", "torn()", 2);
        lanes();
    }

    private static void lanes() {
        at.sentence(TERMS, "1 NULL (nothing), 2 INDEX, 3 CAST (another lane), 4 SIZE (below 0).");
        for (int of = 0; of < 3; of++) {
            for (int as = 0; as < 3; as++) {
                String run = "text young 5; | sheet(3, " + of + ", 2)";
                String read = "read(3, " + as + ", 0, ";
                at.is(run, read + "1)", of == as ? 1 : 0);
                at.is(run + " | " + read + "1)", "torn()", of == as ? 0 : 3);
                at.is(run + " | " + read + "2)", "torn()", of == as ? 2 : 3);
                at.is(run + " | " + read + "0)", "torn()", 0);
                at.is(run + " | read(3, " + as + ", -1, 1)", "torn()", of == as ? 2 : 3);
                String empty = "text young 5; | sheet(3, " + of + ", 0)";
                at.is(empty, read + "1)", 0);
                at.is(empty + " | " + read + "1)", "torn()", of == as ? 2 : 3);
            }
            at.is("text young 5; | read(3, " + of + ", -1, 1)", "torn()", 1);
        }
        at.is("text young 5; | sheet(3, 0, -1)", "torn()", 0);
        at.is("", "sheet(3, 0, -1)", -14);
    }

    private static void p38Refused() {
        at.sentence(38, "-20 less i: the i-th, whole, is refused by teach(): then none came; the first met.");
        String[] wrong = {"lay(2, 0, 3)", "lay(2, 0, -1)", "lay(2, 1, 10)", "lay(2, 1, -1)"};
        for (String lay : wrong) {
            at.is(PAIRS + " | " + lay, "read(2, 1, 0, 1)", -20);
            at.is(PAIRS + " | " + lay, "read(2, 1, 0, 4)", -20);
            at.is(PAIRS + " | " + lay, "read(2, 1, 2, 2)", 2);
            at.is(PAIRS + " | " + lay, "read(2, 1, 0, 0)", 0);
        }
        at.is(PAIRS + " | lay(2, 0, 2) | lay(2, 1, 9)", "read(2, 1, 0, 1)", 1);
        at.is(PAIRS + " | lay(2, 0, 0) | lay(2, 1, 0)", "read(2, 1, 0, 1)", 1);
        String second = PAIRS + " | lay(2, 3, 10)";
        at.calls(second, "read(2, 1, 0, #)", 0, 0, 1, -21, -21, -21);
        String third = PAIRS + " | lay(2, 4, 3)";
        at.calls(third, "read(2, 1, 0, #)", 1, 1, 2, -22, -22, -22);
        at.calls(third, "read(2, 1, 2, #)", 1, 1, -21, -21);
        at.is(second + " | lay(2, 4, 3)", "read(2, 1, 0, 3)", -21);
        String last = FORTY + " | lay(0, 39, 10)";
        at.calls(last, "read(0, 0, 0, #)", 19, 19, -39);
        at.calls(last, "read(0, 0, #, 20)", 1, 19, -38);
        // a half pair is not whole, and another lane is met ahead of any pair
        at.is(PAIRS + " | lay(2, 6, 9)", "read(2, 1, 0, 4)", 3);
        at.is(second, "read(2, 0, 0, 2)", 0);
        at.is(PAIRS + " | sell(2)", "read(2, 1, 0, 3)", -22);
        at.is(PAIRS + " | sell(0)", "read(2, 1, 0, 3)", -20);
        at.is(PAIRS + " | sell(0)", "read(2, 1, 6, 3)", 0);
        at.sentence(38, "BAD: k, lane, n");
        at.outside(BUSY, "read(#, 0, 0, 1)", 0, 3);
        at.outside(BUSY, "read(0, #, 0, 1)", 0, 2);
        at.outside(BUSY, "read(#, 0, 0, 0)", 0, 3);
        at.outside(BUSY, "read(0, #, 0, 0)", 0, 2);
        at.outside("", "read(#, 0, 0, 1)", 0, 3);
        at.outside("", "read(3, 0, 0, #)", 0, 20);
    }

    private static void p39Torn() {
        at.sentence(39, "The FAULT of the latest read() that came to an end; 0.");
        at.is("", "torn()", 0);
        String[] reads = {"read(2, 1, 0, 1)", "read(1, 0, 0, 1)", "read(2, 1, 7, 1)", "read(2, 2, 0, 1)"};
        for (int torn = 0; torn < reads.length; torn++) {
            String run = PAIRS + " | " + reads[torn];
            at.is(run, "torn()", torn);
            for (int next = 0; next < reads.length; next++) {
                at.is(run + " | " + reads[next], "torn()", next);
            }
            // these came to no end
            at.is(run + " | read(4, 0, 0, 1)", "torn()", torn);
            at.is(run + " | read(2, 3, 0, 1)", "torn()", torn);
            at.is(run + " | read(2, 1, 0, 21)", "torn()", torn);
            at.is(run + " | read(2, 1, 0, -1)", "torn()", torn);
            at.is(run + " | read(2, 1, 1, 1)", "torn()", torn);
            // and these are no read()
            at.is(run + " | sheet(2, 0, -1) | lay(2, 99, 0) | lay(1, 0, 0) | text @ | text old 1;", "torn()", torn);
            for (int k = 0; k < 4; k++) {
                at.is(run + " | read(" + k + ", 0, 0, 0)", "torn()", 0);
            }
        }
    }

    private static void p40Count() {
        at.sentence(40, "How many: 0 SEEN, 1 IMAGES, 2 bytes on THE TAPE, 3 CELLS of SHEET 0 (NONE: nothing), 4 all SOUNDS of all MEMORIES, summed as numbers, 5 PLACES of all, summed. BAD.");
        at.calls("", "count(#)", 0, 0, 0, 0, NONE, 0, 0);
        at.outside("", "count(#)", 0, 5);
        // of MEMORIES 1 2 3 4 7 6, 4 5 6, 8 1 4 7 2 6, 6 7 4 9 0 1 at PLACES 2, 1, 2, 4
        at.calls(BUSY, "count(#)", 0, 2, 2, 6, 6, 93, 9);
        at.outside(BUSY, "count(#)", 0, 5);
        String most = "see(0, 0) x6 | keep(0) | keep(1) | sheet(0, 2, 40)";
        for (int p = 0; p < 5; p++) {
            most += " | perch(2, 9) | teach(" + p + ", 9) x6 | turn(" + p + ", 5)";
        }
        at.calls(most + " | feed " + " ".repeat(160), "count(#)", 0, 6, 2, 160, 40, 270, 25);
        at.is("sheet(1, 0, 5) | sheet(2, 0, 5) | sheet(3, 0, 5)", "count(3)", NONE);
        at.is("sheet(0, 0, 0)", "count(3)", 0);
        at.is("keep(1)", "count(1)", 1);
        at.is("keep(0) x2", "count(1)", 1);
    }

    public static void main(String[] args) {
        p26Luck();
        p27Mean();
        p28See();
        p29Forget();
        p30Kinds();
        p31Sounds();
        p32Ask();
        p33Drift();
        p34Keep();
        p35Back();
        p36Sheet();
        p37Lay();
        p38Read();
        p38Refused();
        p39Torn();
        p40Count();
        at.close(26, 40);
    }
}
