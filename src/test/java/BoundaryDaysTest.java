/** Boundaries of KINDS, MEMORY, DAYS, and of what is best: Terms, promises 9 to 25. */
public final class BoundaryDaysTest {
    private static final int BAD = Boundary.BAD, FULL = Boundary.FULL, NONE = Boundary.NONE;
    private static final int TERMS = Boundary.TERMS;
    private static final String BUSY = Boundary.BUSY, FIVE = Boundary.FIVE;
    private static final String[] KINDS = {"plain", "old", "young", "sly"};
    private static final int PLAIN = 0, OLD = 1, YOUNG = 2, SLY = 3;
    private static final String FIVE_OLD = "text old 0;old 1;old 2;old 3;old 4;";
    /** In DAY 999, the last one. */
    private static final String LAST_DAY = "text plain 1 2; | days(30) x33 | days(9)";

    private static final Boundary at = new Boundary("BoundaryDaysTest");

    /** A text of one PARROT whose SOUNDS are 0, 1, and so on. */
    private static String alone(int kind, int sounds) {
        return "text " + KINDS[kind] + " 0 1 2 3 4 5".substring(0, 2 * sounds) + ";";
    }

    /** From every PLACE, the last and the first ones too, of a MEMORY of 1 to 6. */
    private static void goesBy(int kind, int step) {
        for (int sounds = 1; sounds <= 6; sounds++) {
            for (int v = 0; v < sounds; v++) {
                String run = alone(kind, sounds) + " | turn(0, " + v + ")";
                at.is(run, "rule(4)", v);
                at.is(run + " | days(1)", "parrot(0, 2)", (v + step + sounds) % sounds);
            }
        }
    }

    private static void next() {
        at.sentence(TERMS, "plain to the one behind it, from the last to the first");
        goesBy(PLAIN, 1);
        at.sentence(TERMS, "old as a plain one, twice");
        goesBy(OLD, 2);
        at.sentence(TERMS, "young as a plain one");
        goesBy(YOUNG, 1);
        at.sentence(TERMS, "sly to the one ahead of it, from the first to the last.");
        goesBy(SLY, -1);
    }

    private static void learns() {
        at.sentence(TERMS, "plain, if it is not in MEMORY, it comes behind all");
        at.becomes("text plain 1;", "teach(0, 9)", 2, "text plain 1 9;");
        at.becomes("text plain 1 2 3 4 5;", "teach(0, 9)", 6, "text plain 1 2 3 4 5 9;");
        for (int known : new int[] {1, 6}) {
            at.becomes("text plain 1 2 3 4 5 6;", "teach(0, " + known + ")", 6, "text plain 1 2 3 4 5 6;");
        }
        at.sentence(TERMS, "old not");
        at.becomes("text old 1;", "teach(0, 9)", 1, "text old 1;");
        at.becomes("text old 1 2 3 4 5 6;", "teach(0, 9)", 6, "text old 1 2 3 4 5 6;");
        at.sentence(TERMS, "young in any case, it comes behind all");
        at.becomes("text young 1;", "teach(0, 1)", 2, "text young 1 1;");
        at.becomes("text young 1 2 3 4 5;", "teach(0, 1)", 6, "text young 1 2 3 4 5 1;");
        at.becomes("text young 1 2 3 4 5 6;", "teach(0, 1)", 6, "text young 2 3 4 5 6 1;");
        at.becomes("text young 1 2 3 4 5 6;", "teach(0, 6)", 6, "text young 2 3 4 5 6 6;");
        at.sentence(TERMS, "sly, if it is not in MEMORY, it comes ahead of all.");
        at.becomes("text sly 1;", "teach(0, 9)", 2, "text sly 9 1;");
        at.becomes("text sly 1 2 3 4 5;", "teach(0, 9)", 6, "text sly 9 1 2 3 4 5;");
        for (int known : new int[] {1, 6}) {
            at.becomes("text sly 1 2 3 4 5 6;", "teach(0, " + known + ")", 6, "text sly 1 2 3 4 5 6;");
        }
        at.sentence(TERMS, "Where there were 6, the one at the other end is forgotten. PLACE stays (the same number).");
        for (int v : new int[] {0, 1, 4, 5}) {
            String turned = " | turn(0, " + v + ")";
            at.becomes("text plain 1 2 3 4 5 6;" + turned, "teach(0, 9)", 6, "text plain 2 3 4 5 6 9;" + turned);
            at.becomes("text young 1 2 3 4 5 6;" + turned, "teach(0, 9)", 6, "text young 2 3 4 5 6 9;" + turned);
            at.becomes("text sly 1 2 3 4 5 6;" + turned, "teach(0, 9)", 6, "text sly 9 1 2 3 4 5;" + turned);
        }
        at.becomes("text plain 1 2 3 4 5;", "teach(0, 9)", 6, "text plain 1 2 3 4 5 9;");
        // what was forgotten may be learnt again
        at.becomes("text plain 1 2 3 4 5 6; | teach(0, 9)", "teach(0, 1)", 6, "text plain 3 4 5 6 9 1;");
        // as it is heard: the others know it by then, and only DAY goes on
        at.becomes("text old 9;plain 1 2 3 4 5 6;", "days(1)", 1, "text old 9;plain 2 3 4 5 6 9; | days(1)");
        at.becomes("text old 9;sly 1 2 3 4 5 6;", "days(1)", 1, "text old 9;sly 9 1 2 3 4 5; | days(1)");
        at.becomes("text old 9;young 1 2 3 4 5 6;", "days(1)", 1,
                "days(1) | perch(1, 9) | perch(2, 2) | teach(1, 3) | teach(1, 4) | teach(1, 5) | teach(1, 6) | teach(1, 9)");
    }

    private static void aDay() {
        at.sentence(TERMS, "the PARROT whose number DAY leaves by PARROTS (none, if there are none) SAYS the SOUND at its PLACE");
        for (int day = 0; day <= 11; day++) {
            String run = "days(" + day + ")";
            at.is(run, "rule(3)", NONE);
            for (int parrots = 1; parrots <= 5; parrots++) {
                run += " | perch(1, " + parrots + ")";
                at.is(run, "rule(3)", day % parrots);
                at.is(run, "rule(4)", day % parrots + 1);
                at.is(run, "says(0)", day % parrots + 1);
            }
        }
        at.becomes("", "days(1)", 0, "days(1)");
        at.is("days(1)", "rule(1)", 1);
        at.sentence(TERMS, "Each other PARROT whose number differs from that by EAR or less, by order, LEARNS that SOUND.");
        for (int speaker = 0; speaker < 5; speaker++) {
            String run = "days(" + speaker + ")";
            for (int p = 0; p < 5; p++) {
                run += " | perch(2, " + p + ")";
            }
            for (int ear = 1; ear <= 4; ear++) {
                String behind = run + " | ear(" + ear + ") | days(1)";
                int knowers = 0;
                for (int p = 0; p < 5; p++) {
                    boolean hears = p != speaker && Math.abs(p - speaker) <= ear;
                    at.is(behind, "parrot(" + p + ", 1)", hears ? 2 : 1);
                    knowers |= hears || p == speaker ? 1 << p : 0;
                }
                at.is(behind, "knows(" + speaker + ")", knowers);
            }
        }
        at.sentence(TERMS, "its PLACE goes to the NEXT.");
        // the one that speaks alone, and ahead of what the others learn
        at.calls("text plain 1 2;plain 1 2;plain 1 2; | turn(1, 1) | days(1)", "parrot(#, 2)", 0, 1, 1, 0);
        at.calls("text plain 1 2;plain 1 2;plain 1 2; | turn(1, 1) | days(2)", "parrot(#, 2)", 0, 1, 0, 0);
        at.sentence(TERMS, "DAY is 1 more.");
        at.calls("text old 1; | days(0)", "rule(#)", 1, 0);
        at.calls("text old 1; | days(1)", "rule(#)", 1, 1);
        at.calls("text old 1; | days(30)", "rule(#)", 1, 30);
        at.sentence(TERMS, "DAY n is the one behind n more (0: this one).");
        at.is("text plain 1 2 3;", "says(0)", 1);
        at.is("text plain 1 2 3;", "says(1)", 2);
        at.is("text plain 1 2 3; | days(1)", "says(0)", 2);
    }

    private static void p09Moult() {
        at.sentence(9, "KIND of a PARROT becomes v: what it was. BAD.");
        at.calls(BUSY, "moult(#, 1)", 0, 0, 1, 2, 3);
        at.outside(BUSY, "moult(#, 1)", 0, 3);
        at.outside(FIVE, "moult(#, 1)", 0, 4);
        at.calls(BUSY, "moult(3, #)", 0, 3, 3, 3, 3);
        at.outside(BUSY, "moult(3, #)", 0, 3);
        at.outside("", "moult(#, 0)", 0, -1);
        for (int from = 0; from < 4; from++) {
            for (int to = 0; to < 4; to++) {
                at.becomes(alone(from, 6) + " | turn(0, 5)", "moult(0, " + to + ")", from, alone(to, 6) + " | turn(0, 5)");
            }
        }
    }

    private static void p10Turn() {
        at.sentence(10, "PLACE of a PARROT becomes v: what it was. BAD (also, if it has not so many SOUNDS).");
        for (int sounds = 1; sounds <= 6; sounds++) {
            String run = alone(OLD, sounds);
            at.is(run, "turn(0, 0)", 0);
            at.is(run, "turn(0, " + (sounds - 1) + ")", 0);
            at.is(run + " | turn(0, " + (sounds - 1) + ")", "parrot(0, 2)", sounds - 1);
            at.is(run + " | turn(0, " + (sounds - 1) + ")", "turn(0, 0)", sounds - 1);
            at.outside(run, "turn(0, #)", 0, sounds - 1);
            at.outside(run + " | turn(0, " + (sounds - 1) + ")", "turn(0, #)", 0, sounds - 1);
        }
        at.is("text young 1; | teach(0, 2)", "turn(0, 1)", 0);
        at.calls(BUSY, "turn(#, 0)", 0, 2, 1, 2, 4);
        at.outside(BUSY, "turn(#, 0)", 0, 3);
        at.outside(BUSY, "turn(1, #)", 0, 2);
        at.outside(FIVE, "turn(#, 0)", 0, 4);
        at.outside("", "turn(#, 0)", 0, -1);
    }

    private static void p11Teach() {
        at.sentence(11, "A PARROT LEARNS a SOUND, as if it heard it: how many SOUNDS it has then. BAD.");
        int[] ofFive = {6, 5, 6, 6};
        int[] ofOne = {2, 1, 2, 2};
        for (int kind = 0; kind < 4; kind++) {
            at.is(alone(kind, 1), "teach(0, 9)", ofOne[kind]);
            at.is(alone(kind, 5), "teach(0, 9)", ofFive[kind]);
            at.is(alone(kind, 6), "teach(0, 9)", 6);
            at.is(alone(kind, 1), "teach(0, 0)", kind == YOUNG ? 2 : 1);
        }
        at.calls("text young 5;", "teach(0, #)", 0, 2, 2);
        at.calls("text young 5;", "teach(0, #)", 8, 2, 2);
        at.outside("text young 5;", "teach(0, #)", 0, 9);
        at.calls(BUSY, "teach(#, 5)", 0, 6, 3, 6, 6);
        at.outside(BUSY, "teach(#, 5)", 0, 3);
        at.outside(BUSY, "teach(2, #)", 0, 9);
        at.outside(FIVE, "teach(#, 9)", 0, 4);
        at.outside("", "teach(#, 9)", 0, -1);
        // DAY and who else would hear it are left alone
        at.becomes("text plain 1;plain 2;", "teach(0, 3)", 2, "text plain 1 3;plain 2;");
    }

    private static void p12Ear() {
        at.sentence(12, "EAR becomes v: what it was. BAD.");
        at.calls(BUSY, "ear(#)", 1, 2, 2, 2, 2);
        at.outside(BUSY, "ear(#)", 1, 4);
        at.outside("", "ear(#)", 1, 4);
        for (int v = 1; v <= 4; v++) {
            at.is("ear(" + v + ")", "rule(2)", v);
            at.is("ear(" + v + ")", "ear(1)", v);
            at.becomes("text plain 1;plain 2; | days(0)", "ear(" + v + ")", 1, "text plain 1;plain 2;ear " + v + ";");
        }
    }

    private static void p13Perch() {
        at.sentence(13, "A PARROT more, behind all others, with one SOUND: how many there are. BAD; FULL.");
        at.calls("", "perch(#, 7)", 0, 1, 1, 1, 1);
        at.outside("", "perch(#, 7)", 0, 3);
        at.calls("", "perch(0, #)", 0, 1, 1);
        at.calls("", "perch(0, #)", 8, 1, 1);
        at.outside("", "perch(0, #)", 0, 9);
        at.outside(BUSY, "perch(#, 7)", 0, 3);
        at.outside(BUSY, "perch(0, #)", 0, 9);
        for (int kind = 0; kind < 4; kind++) {
            at.becomes("text old 1 2;", "perch(" + kind + ", 9)", 2, "text old 1 2;" + KINDS[kind] + " 9;");
        }
        at.becomes("text plain 1 2 3;old 4 5; | turn(0, 2) | turn(1, 1) | sell(1)", "perch(2, 9)", 2,
                "text plain 1 2 3;young 9; | turn(0, 2)");
        at.sentence(TERMS, "5 at most");
        at.is("text old 0;old 1;old 2;", "perch(1, 3)", 4);
        at.becomes("text old 0;old 1;old 2;old 3;", "perch(1, 4)", 5, FIVE_OLD);
        at.is(FIVE_OLD, "perch(1, 5)", FULL);
        at.is(FIVE_OLD, "perch(2, 9)", FULL);
        at.is(FIVE, "perch(3, 0)", FULL);
        at.is(FIVE_OLD + " | perch(1, 5)", "perch(1, 5)", FULL);
        at.is(BUSY, "perch(3, 9)", 5);
        at.is(BUSY + " | perch(3, 9)", "perch(3, 9)", FULL);
        at.is(FIVE_OLD + " | sell(4)", "perch(1, 5)", 5);
        at.sentence(TERMS, "the first that fits");
        at.outside(FIVE_OLD, "perch(#, 7)", 0, 3);
        at.outside(FIVE_OLD, "perch(0, #)", 0, 9);
    }

    private static void p14Sell() {
        at.sentence(14, "PARROTS are the first n alone: how many there were. BAD.");
        at.calls(BUSY, "sell(#)", 0, 4, 4, 4, 4, 4);
        at.outside(BUSY, "sell(#)", 0, 4);
        at.calls(FIVE, "sell(#)", 0, 5, 5, 5, 5, 5, 5);
        at.outside(FIVE, "sell(#)", 0, 5);
        at.is("", "sell(0)", 0);
        at.outside("", "sell(#)", 0, 0);
        at.becomes(BUSY, "sell(4)", 4, BUSY);
        at.becomes(FIVE, "sell(4)", 5, "text plain 0;plain 1;plain 2;plain 3;");
        at.becomes(FIVE, "sell(1)", 5, "text plain 0;");
        at.becomes(FIVE, "sell(0)", 5, "");
        at.outside(FIVE + " | sell(3)", "sell(#)", 0, 3);
        // DAY stays, and who speaks is told by it and by how many are left
        at.is(FIVE_OLD + " | days(4) | sell(3)", "rule(3)", 1);
    }

    private static void p15Days() {
        at.sentence(15, "n DAYS (0 to 30): how many unlike SOUNDS are said in them.");
        at.calls("text plain 1 2 1;", "days(#)", 0, 0, 1, 2, 2);
        at.calls("text plain 1 2 1;", "days(#)", 29, 2, 2);
        at.outside("text plain 1 2 1;", "days(#)", 0, 30);
        at.outside(BUSY, "days(#)", 0, 30);
        at.becomes(BUSY, "days(0)", 0, BUSY);
        at.becomes(BUSY, "days(30)", 7, BUSY + " | days(1) x30");
        String ten = "text old 0 1 2;old 3 4 5;old 6 7 8;old 9 9 9;";
        at.calls(ten, "days(#)", 10, 9, 10, 10);
        at.calls("", "days(#)", 0, 0, 0);
        at.calls("", "days(#)", 29, 0, 0);
        at.is("days(30)", "rule(1)", 30);
        at.sentence(15, "FULL: DAY would be 1000 or more.");
        String late = "text plain 1 2; | days(30) x33";
        at.calls(late, "days(#)", 8, 2, 2, FULL, FULL);
        at.calls(late, "days(#)", 29, FULL, FULL);
        at.is(late + " | days(10)", "rule(1)", 990);
        at.is(LAST_DAY, "rule(1)", 999);
        at.becomes(LAST_DAY, "days(0)", 0, LAST_DAY);
        at.calls(LAST_DAY, "days(#)", 1, FULL, FULL);
        at.is("days(30) x33 | days(9)", "days(1)", FULL);
        at.is(LAST_DAY + " | text old 1;", "days(30)", 1);
        at.is(LAST_DAY, "says(60)", 2);
        at.sentence(TERMS, "the first that fits");
        at.outside(late, "days(#)", 0, 30);
        at.outside(LAST_DAY, "days(#)", 0, 30);
    }

    private static void p16Says() {
        at.sentence(16, "BY DAYS: what is said in DAY n (0 to 60). BAD; NONE: nothing.");
        at.calls("text plain 1 2 3;", "says(#)", 0, 1, 2, 3, 1);
        at.calls("text plain 1 2 3;", "says(#)", 58, 2, 3, 1);
        at.outside("text plain 1 2 3;", "says(#)", 0, 60);
        at.outside(BUSY, "says(#)", 0, 60);
        at.calls("", "says(#)", 0, NONE, NONE);
        at.calls("", "says(#)", 59, NONE, NONE);
        at.outside("", "says(#)", 0, 60);
        at.calls(BUSY + " | sell(0)", "says(#)", 0, NONE, NONE);
    }

    private static void p17When() {
        at.sentence(17, "BY DAYS: the first DAY (0 to 60) in which a SOUND is said. BAD; NONE: in none.");
        at.calls(FIVE_OLD, "when(#)", 0, 0, 1, 2, 3, 4, NONE, NONE, NONE, NONE, NONE);
        at.is("text old 9;", "when(9)", 0);
        at.outside(FIVE_OLD, "when(#)", 0, 9);
        at.outside(BUSY, "when(#)", 0, 9);
        at.calls("", "when(#)", 0, NONE, NONE);
        at.outside("", "when(#)", 0, 9);
        String in60 = "text plain 1 5 9 8 5 2;sly 5 9 4 2;old 3 5 1 7 6 8;young 0 9;plain 7 0 3;ear 1;";
        at.is(in60, "often(2, 60)", 0);
        at.is(in60, "says(60)", 2);
        at.is(in60, "when(2)", 60);
        at.is(in60 + " | days(1)", "when(2)", 59);
        String in61 = "text sly 9;sly 7;sly 5;old 0 9 5 1;plain 4 6 4;ear 2;";
        at.is(in61, "often(7, 60)", 0);
        at.is(in61, "when(7)", NONE);
        at.is(in61 + " | days(1)", "says(60)", 7);
        at.is(in61 + " | days(1)", "when(7)", 60);
    }

    private static void p18Often() {
        at.sentence(18, "BY DAYS: in how many of n DAYS (0 to 60) a SOUND is said. BAD.");
        at.calls("text plain 1 2 1;", "often(1, #)", 0, 0, 1, 1, 2);
        at.calls("text plain 1 2 1;", "often(1, #)", 58, 39, 39, 40);
        at.outside("text plain 1 2 1;", "often(1, #)", 0, 60);
        at.outside(BUSY, "often(1, #)", 0, 60);
        at.is("text old 0;", "often(0, 60)", 60);
        at.is("text old 9;", "often(9, 60)", 60);
        at.is("text old 9;", "often(8, 60)", 0);
        at.outside(BUSY, "often(#, 60)", 0, 9);
        at.outside(BUSY, "often(#, 0)", 0, 9);
        at.is("", "often(0, 60)", 0);
    }

    private static void p19Phrase() {
        at.sentence(19, "BY DAYS: the first DAY (0 to 60) in which SOUND s is said, t in the next one. BAD; NONE: in none.");
        at.is("text old 0;", "phrase(0, 0)", 0);
        at.is("text old 9;", "phrase(9, 9)", 0);
        at.is("text old 9;", "phrase(9, 0)", NONE);
        at.is("text old 9;", "phrase(0, 9)", NONE);
        at.is(FIVE_OLD, "phrase(4, 0)", 4);
        at.is(FIVE_OLD, "phrase(0, 2)", NONE);
        at.outside(BUSY, "phrase(#, 0)", 0, 9);
        at.outside(BUSY, "phrase(0, #)", 0, 9);
        at.outside("", "phrase(#, 0)", 0, 9);
        at.is("", "phrase(0, 0)", NONE);
        String in60 = "text young 0 6 6 6 6;old 0 6 8 3 7;plain 6 8;sly 2 6;young 6 1;ear 1;";
        at.is(in60, "says(60)", 8);
        at.is(in60 + " | days(1)", "says(60)", 7);
        at.is(in60, "phrase(8, 7)", 60);
        at.is(in60 + " | days(1)", "phrase(8, 7)", 59);
        String in61 = "text young 8 8 3;old 2 6 0 5;plain 5 6 5;plain 4 9 3;plain 6 9 2;ear 1;";
        at.is(in61, "phrase(2, 9)", NONE);
        at.is(in61 + " | days(1)", "phrase(2, 9)", 60);
    }

    private static void p20Ahead() {
        at.sentence(20, "BY DAYS, n of them (0 to 60): SOUNDS that a PARROT KNOWS then (what 0; bits), how many it has (1), its PLACE (2). BAD.");
        at.calls("text plain 1 2 3 4 5 6;", "ahead(0, #, 2)", 0, 0, 1, 2);
        at.calls("text plain 1 2 3 4 5 6;", "ahead(0, #, 2)", 58, 4, 5, 0);
        at.outside("text plain 1 2 3 4 5 6;", "ahead(0, #, 2)", 0, 60);
        at.calls("text old 9;young 0;", "ahead(1, #, 1)", 0, 1, 2, 2, 3);
        at.calls("text old 9;young 0;", "ahead(1, #, 0)", 0, 1, 1 | 1 << 9);
        at.calls("text old 9;young 0;", "ahead(1, #, 1)", 59, 6, 6);
        at.calls("text old 9;young 0;", "ahead(1, #, 0)", 59, 1 << 9, 1 << 9);
        at.calls(FIVE, "ahead(2, 7, #)", 0, 15, 4, 1);
        at.outside(FIVE, "ahead(2, 7, #)", 0, 2);
        at.calls(FIVE, "ahead(#, 0, 0)", 0, 1, 2, 4, 8, 16);
        at.outside(FIVE, "ahead(#, 0, 0)", 0, 4);
        for (String call : new String[] {"ahead(0, #, 0)", "ahead(0, #, 1)", "ahead(0, #, 2)"}) {
            at.outside(BUSY, call, 0, 60);
        }
        at.outside("", "ahead(#, 0, 0)", 0, -1);
    }

    private static void p21Lesson() {
        at.sentence(21, "so that it is said in most of n DAYS (0 to 60), more than as it is, of several the first (what 0), in how many (1). BAD; NONE: none.");
        // taught 7, a sly one alone says 7 1 7 1 ..
        at.calls("text sly 1;", "lesson(7, #, 1)", 0, NONE, 1, 1, 2);
        at.calls("text sly 1;", "lesson(7, #, 1)", 58, 29, 30, 30);
        at.calls("text sly 1;", "lesson(7, #, 0)", 0, NONE, 0);
        at.calls("text sly 1;", "lesson(7, #, 0)", 59, 0, 0);
        at.outside("text sly 1;", "lesson(7, #, 1)", 0, 60);
        at.outside(BUSY, "lesson(7, #, 0)", 0, 60);
        at.outside(BUSY, "lesson(#, 9, 0)", 0, 9);
        at.outside(BUSY, "lesson(7, 9, #)", 0, 1);
        at.is("text sly 1;", "lesson(0, 1, 0)", 0);
        at.is("text sly 1;", "lesson(9, 1, 0)", 0);
        // as many as it is are not more
        at.is("text sly 7;", "lesson(7, 60, 0)", NONE);
        at.is("text young 7;", "lesson(7, 60, 0)", NONE);
        at.is("text old 1;", "lesson(7, 60, 1)", NONE);
        at.is("text old 1;sly 1;sly 1;", "lesson(7, 3, 0)", 1);
        at.is("text old 1;old 1;old 1;old 1;sly 1;", "lesson(7, 4, 0)", NONE);
        at.is("text old 1;old 1;old 1;old 1;sly 1;", "lesson(7, 5, 0)", 4);
        at.is("", "lesson(7, 60, 0)", NONE);
        at.outside("", "lesson(7, #, 0)", 0, 60);
        at.sentence(21, "The PARROT to which a SOUND is to be taught now (it may LEARN it or not)");
        at.is("text old 1;plain 1;", "lesson(7, 3, 0)", NONE);
        at.is("text old 1;plain 1;", "lesson(7, 4, 0)", 1);
        at.is("text old 1;plain 1 7;", "lesson(7, 4, 0)", NONE);
    }

    private static void p22Away() {
        at.sentence(22, "so that a SOUND is said in fewest of n DAYS (0 to 60), fewer than as it is, of several the first (what 0), in how many (1). BAD; NONE: none.");
        // as it is 1 2 1 1 2 1 ..; without the first 2 1 2 1 ..; without the last 1 2 1 2 ..
        String three = "text old 1;old 2;old 1;";
        at.calls(three, "away(1, #, 0)", 0, NONE, 0, NONE, 0);
        at.calls(three, "away(1, #, 1)", 0, NONE, 0, NONE, 1);
        at.calls(three, "away(1, #, 1)", 58, 29, 29, 30);
        at.calls(three, "away(1, #, 0)", 58, 0, 0, 0);
        at.outside(three, "away(1, #, 0)", 0, 60);
        at.outside(BUSY, "away(1, #, 1)", 0, 60);
        at.outside(BUSY, "away(#, 9, 0)", 0, 9);
        at.outside(BUSY, "away(1, 9, #)", 0, 1);
        at.is("text old 0;", "away(0, 60, 0)", 0);
        at.is("text old 9;", "away(9, 60, 1)", 0);
        // as few as it is are not fewer
        at.is("text old 1;old 1;", "away(1, 60, 0)", NONE);
        at.is("text old 1;old 1;", "away(2, 60, 1)", NONE);
        at.is(FIVE_OLD, "away(4, 4, 0)", NONE);
        at.is(FIVE_OLD, "away(4, 5, 0)", 4);
        at.is("", "away(1, 60, 0)", NONE);
        at.outside("", "away(1, #, 0)", 0, 60);
        at.sentence(22, "those behind it go one perch on");
        at.is("text old 1;old 2;old 3; | days(1)", "away(2, 1, 0)", 0);
        at.is("text old 1;old 2;old 3; | days(1)", "away(3, 1, 0)", NONE);
    }

    private static void p23Swap() {
        at.sentence(23, "so that a SOUND is said first soonest, sooner than as it is: 10 times the lesser and the greater, of several the least (what 0), in which DAY (1). BAD; NONE: by none.");
        at.calls(FIVE_OLD, "swap(#, 0)", 0, NONE, 1, 2, 3, 4, NONE);
        at.calls(FIVE_OLD, "swap(#, 1)", 0, NONE, 0, 0, 0, 0, NONE);
        at.is(FIVE_OLD + " | days(3)", "swap(4, 0)", 34);
        at.is(FIVE_OLD + " | days(3)", "swap(4, 1)", 0);
        at.is("text old 0;old 9;old 9;", "swap(9, 0)", 1);
        at.is("text old 1;old 1;", "swap(1, 0)", NONE);
        at.is("text old 1;", "swap(1, 0)", NONE);
        at.is("text old 1;", "swap(2, 1)", NONE);
        at.is("", "swap(0, 0)", NONE);
        at.outside(BUSY, "swap(#, 0)", 0, 9);
        at.outside(BUSY, "swap(0, #)", 0, 1);
        at.outside("", "swap(#, 0)", 0, 9);
        at.sentence(23, "Two PARROTS that are to change perches (all of them)");
        // KIND: the old one says 1 for ever; MEMORY; PLACE
        at.is("text old 1 2;plain 1 2;", "swap(2, 0)", 1);
        at.is("text old 1 2;plain 1 2;", "swap(2, 1)", 2);
        at.is("text old 3;old 4 5 6 7 8 9; | turn(1, 5)", "swap(9, 1)", 0);
        at.is("text old 3;old 4 5 6 7 8 9; | turn(1, 5)", "swap(4, 1)", NONE);
        at.sentence(23, "in which DAY (1)");
        // as it is, 3 is not said in 61 DAYS; the first and the fourth changed, in the last of them
        String in60 = "text sly 1;plain 6;old 6 9 7;sly 2 3;old 5 8 4 9;ear 2;";
        at.is(in60, "when(3)", NONE);
        at.is("text sly 2 3;plain 6;old 6 9 7;sly 1;old 5 8 4 9;ear 2;", "when(3)", 60);
        at.is(in60, "swap(3, 0)", 3);
        at.is(in60, "swap(3, 1)", 60);
        // here 8 would be said in DAY 61, which is one too late
        String in61 = "text sly 1 8 3 2;old 6 4;plain 6 1 0;young 3 4;plain 2 1 4 4 6 7;ear 4;";
        at.is(in61 + " | days(1)", "when(8)", NONE);
        at.is("text old 6 4;sly 1 8 3 2;plain 6 1 0;young 3 4;plain 2 1 4 4 6 7;ear 4; | days(1)", "when(8)", 60);
        at.is(in61, "swap(8, 0)", NONE);
        at.is(in61, "swap(8, 1)", NONE);
    }

    private static void p24Far() {
        at.sentence(24, "The least EAR (1 to 4) by which all PARROTS KNOW a SOUND behind n DAYS (0 to 60). BAD; NONE: by none.");
        at.is("text plain 1;", "far(1, 0)", 1);
        at.is("text plain 1;plain 2;", "far(1, 1)", 1);
        at.is("text plain 1;plain 2;plain 3;", "far(1, 1)", 2);
        at.is("text plain 1;plain 2;plain 3;plain 4;", "far(1, 1)", 3);
        at.is(FIVE, "far(0, 1)", 4);
        at.is(FIVE, "far(0, 0)", NONE);
        at.is("text plain 1;plain 2;plain 3;plain 4;ear 4;", "far(1, 1)", 3);
        at.is("text old 1;old 2;", "far(1, 60)", NONE);
        at.is("text plain 0;plain 2;", "far(0, 60)", 1);
        at.is("text plain 9;plain 2;", "far(9, 59)", 1);
        String in60 = "text young 6 0 8;young 4;sly 4 5 0;ear 2;";
        at.calls(in60, "far(4, #)", 59, NONE, 2);
        for (int p = 0; p < 3; p++) {
            at.is(in60 + " | days(30) x2", "parrot(" + p + ", 0)", p == 2 ? SLY : YOUNG);
        }
        at.is(in60 + " | days(30) x2", "knows(4)", 7);
        at.outside(BUSY, "far(1, #)", 0, 60);
        at.outside(BUSY, "far(#, 1)", 0, 9);
        at.outside("", "far(1, #)", 0, 60);
        // of no PARROTS all KNOW it
        at.is("", "far(1, 0)", 1);
    }

    private static void p25Kind() {
        at.sentence(25, "The KIND of a PARROT by which a SOUND is said in most of n DAYS (0 to 60), of several the first (what 0), in how many (1). BAD.");
        // plain and young 1 2 3 1 .., old and sly 1 3 2 1 ..
        String one = "text young 1 2 3;";
        at.calls(one, "kind(0, 3, #, 0)", 0, 0, 0, 1, 0);
        at.calls(one, "kind(0, 3, #, 1)", 0, 0, 0, 1, 1);
        at.calls(one, "kind(0, 3, #, 0)", 58, 0, 1, 0);
        at.calls(one, "kind(0, 3, #, 1)", 58, 19, 20, 20);
        at.outside(one, "kind(0, 3, #, 0)", 0, 60);
        at.outside(BUSY, "kind(0, 3, #, 1)", 0, 60);
        // only a sly one has the last of four in DAY 1
        at.is("text plain 1 2 3 4;", "kind(0, 4, 1, 0)", 0);
        at.is("text plain 1 2 3 4;", "kind(0, 4, 2, 0)", 3);
        at.calls(FIVE_OLD, "kind(#, 9, 60, 0)", 0, 0, 0, 0, 0, 0);
        at.outside(FIVE_OLD, "kind(#, 9, 60, 0)", 0, 4);
        at.outside(BUSY, "kind(#, 3, 5, 0)", 0, 3);
        at.outside(BUSY, "kind(0, #, 5, 0)", 0, 9);
        at.outside(BUSY, "kind(0, 3, 5, #)", 0, 1);
        at.is("text plain 0;", "kind(0, 0, 60, 1)", 60);
        at.is("text plain 9;", "kind(0, 9, 60, 1)", 60);
        at.outside("", "kind(#, 3, 5, 0)", 0, -1);
    }

    public static void main(String[] args) {
        next();
        learns();
        aDay();
        p09Moult();
        p10Turn();
        p11Teach();
        p12Ear();
        p13Perch();
        p14Sell();
        p15Days();
        p16Says();
        p17When();
        p18Often();
        p19Phrase();
        p20Ahead();
        p21Lesson();
        p22Away();
        p23Swap();
        p24Far();
        p25Kind();
        at.close(9, 25);
    }
}
