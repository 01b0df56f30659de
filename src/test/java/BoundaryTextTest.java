/** Boundaries of THE TAPE, the text, its FAULTS, and of what is told by it: Terms, promises 1 to 8. */
public final class BoundaryTextTest {
    private static final int BAD = Boundary.BAD, FULL = Boundary.FULL, NONE = Boundary.NONE;
    private static final int TERMS = Boundary.TERMS;
    private static final String BUSY = Boundary.BUSY, FIVE = Boundary.FIVE, ROWS = Boundary.ROWS;
    private static final String FIVE_LINES = FIVE.substring("text ".length());

    private static final Boundary at = new Boundary("BoundaryTextTest");

    private static String blanks(int n) {
        return " ".repeat(n);
    }

    /** A text on a new object that is taken: how many lines. */
    private static void taken(String text, int lines) {
        at.is("feed " + text, "text()", lines);
        at.is("text " + text, "fault()", 0);
        at.is("text " + text, "count(2)", 0);
    }

    /** Its FAULT and place, on a new object and on a busy one, where what was told stays. */
    private static void faulty(String text, int fault, int place) {
        at.is("feed " + text, "text()", -10 - place);
        at.is("text " + text, "fault()", fault);
        at.is("text " + text, "count(2)", 0);
        at.staysBehindFaulty("", text);
        String busy = BUSY + " | end(0)";
        at.is(busy + " | feed " + text, "text()", -10 - place);
        at.is(busy + " | text " + text, "fault()", fault);
        at.staysBehindFaulty(busy, text);
    }

    private static void p01NewObject() {
        at.sentence(1, "No PARROTS");
        at.is("", "rule(0)", 0);
        at.is("", "rule(5)", 0);
        for (String call : new String[] {"parrot(0, 0)", "parrot(0, 10)", "moult(0, 0)", "turn(0, 0)", "teach(0, 0)",
            "ahead(0, 0, 0)", "kind(0, 0, 0, 0)", "luck(0, 0, 0, 0, 0)", "kinds(0)", "sounds(0, 0)", "ask(0, 0, 0)"}) {
            at.is("", call, BAD);
        }
        at.is("", "perch(0, 0)", 1);
        at.is("", "sell(0)", 0);
        at.is("", "sell(1)", BAD);
        at.sentence(1, "SHEETS of nothing");
        for (int k = 0; k < 4; k++) {
            at.is("", "lay(" + k + ", 0, 0)", -11);
            for (int lane = 0; lane < 3; lane++) {
                at.is("", "read(" + k + ", " + lane + ", 0, 1)", 0);
                at.is("read(" + k + ", " + lane + ", 0, 1)", "torn()", 1);
            }
        }
        at.is("", "count(3)", NONE);
        at.sentence(TERMS, "EAR (1 to 4; 1 at first). DAY (0 at first).");
        at.is("", "rule(2)", 1);
        at.is("", "rule(1)", 0);
    }

    private static void answers() {
        at.sentence(TERMS, "Answers: BAD -1 (a number is not as told, there is no such PARROT, IMAGE, SHEET), STATE -2 (as told), FULL -3, NONE -4 (there is none)");
        at.hold("BAD", ParrotHeirs.BAD, -1);
        at.hold("STATE", ParrotHeirs.STATE, -2);
        at.hold("FULL", ParrotHeirs.FULL, -3);
        at.hold("NONE", ParrotHeirs.NONE, -4);
        at.sentence(TERMS, "what is refused changes nothing (but THE TAPE, as told)");
        // one of each call that can be refused; BUSY has 4 PARROTS, 2 SEEN, both IMAGES, 6 bytes on THE TAPE
        for (String call : new String[] {"feed(128)", "end(7)", "rule(6)", "parrot(4, 0)", "knows(10)", "moult(0, 4)",
            "turn(1, 3)", "teach(4, 0)", "ear(5)", "perch(4, 0)", "sell(5)", "days(31)", "says(61)", "when(10)",
            "often(0, 61)", "phrase(0, 10)", "ahead(0, 61, 0)", "lesson(0, 61, 0)", "away(0, 61, 0)", "swap(0, 2)",
            "far(0, 61)", "kind(4, 0, 0, 0)", "luck(11, 0, 0, 0, 0)", "mean(11, 0, 0, 0)", "see(21, 0)", "forget(3)",
            "kinds(4)", "sounds(0, 6)", "ask(0, 6, 0)", "drift(0, 0, 0)", "keep(2)", "back(2)", "sheet(4, 0, 0)",
            "lay(4, 0, 0)", "read(4, 0, 0, 1)", "count(6)"}) {
            at.is(BUSY, call, BAD);
        }
        at.is(BUSY + " | perch(0, 5)", "perch(0, 5)", FULL);
        at.is(BUSY + " | see(0, 0) x4", "see(0, 0)", FULL);
        at.is(BUSY + " | days(30) x33", "days(3)", FULL);
        at.is(BUSY + " | feed " + blanks(154), "feed(32)", FULL);
        at.is(BUSY + " | sell(0)", "drift(0, 1, 0)", Boundary.STATE);
        at.is(BUSY + " | text()", "back(0)", Boundary.STATE);
        at.is(BUSY, "sheet(0, 0, -1)", -14);
        at.is(BUSY, "lay(3, 0, 5)", -11);
        at.is(BUSY, "lay(0, 6, 5)", -12);
        at.is(BUSY + " | lay(0, 5, 10)", "read(0, 0, 0, 3)", -22);
        faulty("sly 1;sly 2;@", 1, 12);
    }

    private static void p02Feed() {
        at.sentence(2, "A byte (0 to 127) comes behind THE TAPE: how many it has.");
        at.calls("", "feed(#)", 0, 1, 1);
        at.calls("", "feed(#)", 126, 1, 1);
        at.calls(BUSY, "feed(#)", 0, 7, 7);
        at.calls(BUSY, "feed(#)", 126, 7, 7);
        at.outside("", "feed(#)", 0, 127);
        at.outside(BUSY, "feed(#)", 0, 127);
        at.becomes("feed sly 4", "feed(59)", 6, "feed sly 4;");
        at.sentence(2, "FULL: more than 160.");
        String text = blanks(153) + "ear 3;";
        at.is("feed " + text.substring(1), "feed(59)", 159);
        at.is("feed " + text, "feed(32)", 160);
        at.is("feed " + text + " ", "feed(32)", FULL);
        at.is("feed " + text + "  ", "feed(32)", FULL);
        at.is("feed " + text + "@", "count(2)", 160);
        at.is("feed " + text + " @", "text()", 1);
        at.is("feed " + text + " @ | end(159)", "feed(32)", 160);
        at.is("feed " + text + " | text() | feed a", "count(2)", 1);
        at.sentence(TERMS, "the first that fits");
        at.outside("feed " + text + " ", "feed(#)", 0, 127);
    }

    private static void p03End() {
        at.sentence(3, "THE TAPE keeps its first n bytes: how many it had. BAD.");
        at.calls("feed ear 2;@", "end(#)", 0, 7, 7);
        at.calls("feed ear 2;@", "end(#)", 6, 7, 7);
        at.outside("feed ear 2;@", "end(#)", 0, 7);
        at.becomes("feed ear 2;@", "end(0)", 7, "");
        at.becomes("feed ear 2;@", "end(1)", 7, "feed e");
        at.becomes("feed ear 2;@", "end(6)", 7, "feed ear 2;");
        at.becomes("feed ear 2;@", "end(7)", 7, "feed ear 2;@");
        at.becomes(BUSY + "@", "end(6)", 7, BUSY);
        at.outside(BUSY, "end(#)", 0, 6);
        at.is("", "end(0)", 0);
        at.outside("", "end(#)", 0, 0);
        at.is(BUSY + " | end(0)", "end(0)", 0);
        at.outside(BUSY + " | end(0)", "end(#)", 0, 0);
        at.is("feed " + blanks(160), "end(160)", 160);
        at.is("feed " + blanks(160), "end(159)", 160);
        at.outside("feed " + blanks(160), "end(#)", 0, 160);
    }

    private static void p04Text() {
        at.sentence(4, "THE TAPE (empty then) tells all: how many lines");
        taken("", 0);
        taken(" ", 0);
        taken(blanks(160), 0);
        taken("ear 1;", 1);
        taken(FIVE_LINES, 5);
        taken(FIVE_LINES + "ear 1;", 6);
        taken(blanks(154) + "ear 4;", 1);
        at.is("text " + blanks(154) + "ear 4;", "rule(2)", 4);
        at.sentence(4, "-10 less the place of its FAULT: that which was told stays.");
        faulty("@", 1, 0);
        faulty(" @", 1, 1);
        faulty(blanks(158) + "@", 1, 158);
        faulty(blanks(159) + "@", 1, 159);
        faulty(blanks(156) + "ear", 2, 159);
        faulty(blanks(157) + "ear", 2, 160);
        faulty("sly 1;@", 1, 6);
        at.sentence(TERMS, "A text that is taken tells all, in place of what there was; nothing is SEEN; IMAGES are gone.");
        String told = BUSY + " | end(0) | feed young 8 5;";
        at.becomes(told, "text()", 1, "text young 8 5; | " + ROWS);
        at.is(told + " | text()", "rule(1)", 0);
        at.is(told + " | text()", "rule(2)", 1);
        at.is(told + " | text()", "count(0)", 0);
        at.is(told + " | text()", "count(1)", 0);
        at.is(told + " | text()", "back(0)", Boundary.STATE);
        at.is(told + " | text()", "back(1)", Boundary.STATE);
        at.becomes(BUSY + " | end(0)", "text()", 0, ROWS);
        at.becomes(BUSY, "text()", 1, ROWS + " | ear(3)");
        at.becomes("text plain 1 2 3; | days(2) | end(0) | feed plain 1 2 3;", "text()", 1, "text plain 1 2 3;");
        at.sentence(TERMS, "THE TAPE has 160 bytes, places from 0.");
        at.is("feed " + blanks(160), "count(2)", 160);
        at.is("feed " + blanks(161), "count(2)", 160);
        taken(blanks(160) + "@", 0);
        taken(FIVE_LINES + blanks(114) + "ear 2;@", 6);
        at.is("text " + FIVE_LINES + blanks(114) + "ear 2;@", "rule(2)", 2);
    }

    private static void tokens() {
        at.sentence(TERMS, "TOKENS, each as long as may be, blanks (32) between: NAMES (a .. z), NUMBERS (1 or 2 figures), one ; .");
        for (int c = 0; c <= 127; c++) {
            boolean isToken = c >= 'a' && c <= 'z' || c >= '0' && c <= '9' || c == ';';
            String run = "feed(" + c + ")";
            at.is(run, "text()", c == 32 ? 0 : -10);
            at.is(run + " | text()", "fault()", c == 32 ? 0 : isToken ? 2 : 1);
        }
        taken("ear 1 ;", 1);
        taken("ear1;", 1);
        taken("  ear   1  ;  ", 1);
        taken("ear 1;sly 1;", 2);
        for (char c : new char[] {31, 33, 9, 10, 0, 127}) {
            faulty("ear" + c + "1;", 1, 3);
            faulty("ear 1" + c + ";", 1, 5);
        }
        taken("plain 1 2;", 1);
        at.is("text plain 1 2;", "rule(5)", 2);
        faulty("plain 12;", 3, 6);
        faulty("plain 1 23;", 3, 8);
        faulty("plainplain 1;", 2, 0);
        faulty("pl ain 1;", 2, 0);
        faulty("ear e;", 2, 4);
        faulty("ear 1;;", 2, 6);
        faulty("ear 1; ;", 2, 7);
    }

    private static void lines() {
        at.sentence(TERMS, "plain, old, young, sly: a PARROT more of that KIND: MEMORY (1 to 6 SOUNDS).");
        String[] kinds = {"plain", "old", "young", "sly"};
        for (int kind = 0; kind < 4; kind++) {
            String name = kinds[kind];
            int from = name.length();
            faulty(name + ";", 2, from);
            taken(name + " 0;", 1);
            taken(name + " 0 1;", 1);
            taken(name + " 5 6 7 8 9;", 1);
            taken(name + " 4 5 6 7 8 9;", 1);
            faulty(name + " 4 5 6 7 8 9 0;", 5, from + 13);
            at.is("text " + name + " 7;", "parrot(0, 0)", kind);
            at.is("text " + name + " 7;", "parrot(0, 1)", 1);
            at.is("text " + name + " 4 5 6 7 8 9;", "parrot(0, 1)", 6);
            at.calls("text " + name + " 4 5 6 7 8 9;", "parrot(0, #)", 10, 4, 5, 6, 7, 8, 9);
            // a NAME with a letter more, less or another one at either end begins no line
            faulty("x" + name.substring(1) + " 1;", 2, 0);
            faulty(name.substring(0, from - 1) + "x 1;", 2, 0);
            faulty(name + "s 1;", 2, 0);
            faulty("s" + name + " 1;", 2, 0);
            faulty(name.substring(1) + " 1;", 2, 0);
            faulty(name.substring(0, from - 1) + " 1;", 2, 0);
        }
        at.sentence(TERMS, "ear N ;");
        faulty("ear;", 2, 3);
        taken("ear 3;", 1);
        faulty("ear 3 3;", 2, 6);
        faulty("ears 3;", 2, 0);
        faulty("xar 3;", 2, 0);
        faulty("eax 3;", 2, 0);
        faulty("ea 3;", 2, 0);
        at.sentence(TERMS, "each of a KIND (0 plain, 1 old, 2 young, 3 sly), with a MEMORY: SOUNDS (0 to 9 each), one behind another, 1 to 6");
        at.calls("text plain 9;old 0;young 9;sly 0;", "parrot(#, 0)", 0, 0, 1, 2, 3, BAD);
        at.calls("text plain 9;old 0;young 9;sly 0;", "parrot(#, 10)", 0, 9, 0, 9, 0, BAD);
        at.calls("text plain 9;old 0;young 9;sly 0;", "parrot(#, 1)", 0, 1, 1, 1, 1, BAD);
        at.sentence(TERMS, "at a PLACE in it (0: the first one; at first)");
        at.is("text sly 4 5 6 7 8 9;", "parrot(0, 2)", 0);
        at.is("text sly 4 5 6 7 8 9;", "rule(4)", 4);
        at.is("perch(3, 4)", "parrot(0, 2)", 0);
    }

    private static void faultsOneAndTwo() {
        at.sentence(TERMS, "1 no TOKEN, a NUMBER that is too long (its first byte).");
        taken("plain 9;", 1);
        taken("plain 09;", 1);
        faulty("plain 009;", 1, 6);
        faulty("plain 99;", 3, 6);
        faulty("plain 100;", 1, 6);
        faulty("plain 999;", 1, 6);
        faulty("plain 1 2 003;", 1, 10);
        faulty("ear 004;", 1, 4);
        taken("ear 04;", 1);
        faulty("12", 2, 0);
        faulty("123", 1, 0);
        faulty("1".repeat(160), 1, 0);
        faulty("plain  Q;", 1, 7);
        faulty("plain 1,2;", 1, 7);
        at.sentence(TERMS, "2 a TOKEN that can not stand there (a NAME that begins no line; or the end: the length).");
        faulty("1", 2, 0);
        faulty(";", 2, 0);
        faulty("king 1;", 2, 0);
        faulty("sly 1; king", 2, 7);
        faulty("sly old", 2, 4);
        faulty("sly king", 2, 4);
        faulty("sly ;", 2, 4);
        faulty("sly", 2, 3);
        faulty("sly   ", 2, 6);
        faulty("sly 1", 2, 5);
        faulty("sly 1   ", 2, 8);
        faulty("sly 1 old 2;", 2, 6);
        faulty("sly 1 2 3 4 5 6", 2, 15);
        faulty("sly 1 2 3 4 5 6 old", 2, 16);
        faulty("ear old", 2, 4);
        faulty("ear ;", 2, 4);
        faulty("ear ", 2, 4);
        faulty("ear 1", 2, 5);
        faulty("ear 1 ", 2, 6);
        faulty("ear 1 1", 2, 6);
        faulty("ear 1 ear", 2, 6);
        faulty("a".repeat(160), 2, 0);
        faulty("ear 1;" + "a".repeat(154), 2, 6);
    }

    private static void faultsThreeToFive() {
        at.sentence(TERMS, "3 a NUMBER out of its bounds.");
        taken("plain 0;", 1);
        taken("plain 00;", 1);
        taken("plain 9;", 1);
        faulty("plain 10;", 3, 6);
        faulty("plain 99;", 3, 6);
        faulty("plain 1 2 3 4 5 10;", 3, 16);
        faulty("ear 0;", 3, 4);
        faulty("ear 00;", 3, 4);
        taken("ear 1;", 1);
        taken("ear 2;", 1);
        taken("ear 3;", 1);
        taken("ear 4;", 1);
        faulty("ear 5;", 3, 4);
        faulty("ear 9;", 3, 4);
        faulty("ear 10;", 3, 4);
        at.sentence(TERMS, "4 ear for the second time (its NAME).");
        taken("sly 1;ear 2;", 2);
        faulty("ear 2;ear 2;", 4, 6);
        faulty("ear 2;  ear", 4, 8);
        faulty("ear 2;sly 1;ear 3;", 4, 12);
        // the second time is by text: an EAR told by the text before does not count
        at.is("text ear 2; | feed ear 3;", "text()", 1);
        at.sentence(TERMS, "5 the 6th PARROT (its NAME); a 7th SOUND (its NUMBER, whether it is one or not).");
        taken("plain 0;plain 1;plain 2;plain 3;", 4);
        taken(FIVE_LINES, 5);
        for (String kind : new String[] {"plain", "old", "young", "sly"}) {
            faulty(FIVE_LINES + kind + " 1;", 5, 40);
        }
        faulty("ear 1;" + FIVE_LINES + " sly", 5, 47);
        faulty(FIVE_LINES + "king 1;", 2, 40);
        taken(FIVE_LINES + "ear 1;", 6);
        taken("sly 1 2 3 4 5 6;", 1);
        faulty("sly 1 2 3 4 5 6 7", 5, 16);
        faulty("sly 1 2 3 4 5 6 9;", 5, 16);
        faulty("sly 1 2 3 4 5 6 10;", 5, 16);
        faulty("sly 1 2 3 4 5 6 99;", 5, 16);
        faulty("sly 1 2 3 4 5 6 100;", 1, 16);
        at.sentence(TERMS, "FAULTS, the first met as it is read (a TOKEN is read when the one before has been taken)");
        faulty("plain 10 @", 3, 6);
        faulty("plain @ 10", 1, 6);
        faulty("king @", 2, 0);
        faulty("ear 0@", 3, 4);
        faulty("ear 1@", 1, 5);
        faulty("ear 1;ear @", 4, 6);
        faulty("ear 1;ear", 4, 6);
        faulty(FIVE_LINES + "old @", 5, 40);
        faulty(FIVE_LINES + "old 10", 5, 40);
        faulty("old 1 2 3 4 5 6 7@", 5, 16);
        faulty("old 1 2 3 4 5 10 7", 3, 14);
        faulty("ear 5 5", 3, 4);
        faulty("1@", 2, 0);
    }

    private static void p05Fault() {
        at.sentence(5, "The FAULT of the latest text(); 0.");
        at.is("", "fault()", 0);
        at.is("text ", "fault()", 0);
        String[] texts = {"ear 1;", "@", "ear", "ear 0;", "ear 1;ear 1;", "sly 1 2 3 4 5 6 7;"};
        for (int fault = 0; fault < texts.length; fault++) {
            String run = "text " + texts[fault];
            at.is(run, "fault()", fault);
            at.is(run + " | feed @ | end(0) | days(3) | sheet(0, 0, -1) | perch(9, 9)", "fault()", fault);
            at.is(run + " | text()", "fault()", 0);
            at.is(run + " | text ear 2;", "fault()", 0);
            for (int next = 1; next < texts.length; next++) {
                at.is(run + " | text " + texts[next], "fault()", next);
            }
        }
    }

    private static void p06Rule() {
        at.sentence(6, "0 PARROTS, 1 DAY, 2 EAR, 3 which SAYS something in this DAY (NONE), 4 what (NONE), 5 how many SOUNDS all have in MEMORY, summed. BAD.");
        at.calls(BUSY, "rule(#)", 0, 4, 7, 2, 3, 0, 21);
        at.outside(BUSY, "rule(#)", 0, 5);
        at.calls("", "rule(#)", 0, 0, 0, 1, NONE, NONE, 0);
        at.outside("", "rule(#)", 0, 5);
        at.calls("perch(1, 9)", "rule(#)", 0, 1, 0, 1, 0, 9, 1);
        at.calls(BUSY + " | sell(0)", "rule(#)", 0, 0, 7, 2, NONE, NONE, 0);
        String most = "days(30) x33 | days(9) | ear(4)" + " | perch(2, 0)".repeat(5);
        at.calls(most, "rule(#)", 0, 5, 999, 4, 4, 0, 5);
        at.is(most + " | teach(0, 9) x5 | teach(1, 9) x5 | teach(2, 9) x5 | teach(3, 9) x5 | teach(4, 9) x6", "rule(5)", 30);
    }

    private static void p07Parrot() {
        at.sentence(7, "Of a PARROT: 0 KIND, 1 how many SOUNDS it has, 2 PLACE, 3 SOUNDS that it KNOWS (bits)");
        at.calls("text sly 0 9 9; | turn(0, 2)", "parrot(0, #)", 0, 3, 3, 2, 1 | 1 << 9);
        at.calls(BUSY, "parrot(#, 0)", 0, 0, 1, 2, 3);
        at.outside(BUSY, "parrot(#, 0)", 0, 3);
        at.outside(BUSY, "parrot(#, 10)", 0, 3);
        at.calls(FIVE, "parrot(#, 3)", 0, 1, 2, 4, 8, 16);
        at.outside(FIVE, "parrot(#, 3)", 0, 4);
        at.outside("text sly 1;", "parrot(#, 2)", 0, 0);
        at.outside("", "parrot(#, 1)", 0, -1);
        for (int what : new int[] {-1, 4, 5, 8, 9, 16, 17, Boundary.LEAST, Boundary.MOST}) {
            at.is(BUSY, "parrot(3, " + what + ")", BAD);
        }
        at.sentence(7, "10 and i: its i-th SOUND (NONE: not so many). BAD (also i above 5).");
        at.calls("text old 7;", "parrot(0, #)", 9, BAD, 7, NONE, NONE, NONE, NONE, NONE, BAD);
        at.calls("text old 7 8 9 0 1;", "parrot(0, #)", 9, BAD, 7, 8, 9, 0, 1, NONE, BAD);
        at.calls("text old 7 8 9 0 1 2;", "parrot(0, #)", 9, BAD, 7, 8, 9, 0, 1, 2, BAD);
        at.is("text old 7;", "parrot(1, 15)", BAD);
        at.is("text old 7;", "parrot(1, 16)", BAD);
    }

    private static void p08Knows() {
        at.sentence(8, "PARROTS that KNOW a SOUND (bits). BAD.");
        at.calls("text plain 0 9;old 9;young 8 1;sly 1;old 0;", "knows(#)", 0, 17, 12);
        at.calls("text plain 0 9;old 9;young 8 1;sly 1;old 0;", "knows(#)", 8, 4, 3);
        at.outside(BUSY, "knows(#)", 0, 9);
        at.outside("", "knows(#)", 0, 9);
        at.calls("", "knows(#)", 0, 0, 0, 0, 0, 0, 0, 0, 0, 0, 0);
        at.is("text old 1 1 1 1 1 9;", "knows(9)", 1);
        at.sentence(TERMS, "One KNOWS a SOUND that is in its MEMORY.");
        // what was forgotten, and what those knew that were sold, is in no MEMORY
        at.is("text young 1 2 3 4 5 6; | teach(0, 7)", "knows(1)", 0);
        at.is("text old 1;old 2; | sell(1)", "knows(2)", 0);
    }

    public static void main(String[] args) {
        p01NewObject();
        answers();
        p02Feed();
        p03End();
        p04Text();
        tokens();
        lines();
        faultsOneAndTwo();
        faultsThreeToFive();
        p05Fault();
        p06Rule();
        p07Parrot();
        p08Knows();
        at.close(1, 8);
    }
}
