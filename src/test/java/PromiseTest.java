/**
 * The document's promises one by one, with answers mostly worked out by hand from its words.
 * Not by hand: drift's runs of many days come from a small script written apart from the class, and the
 * texts for DAY 60 and 61 were found by a search with the class itself (says() is held beside them). All
 * rows were once replayed on a model in Python, a later writing of the document: no answer differed.
 */
public final class PromiseTest {
    private static final int BAD = -1, STATE = -2, FULL = -3, NONE = -4;
    private static final int LEAST = Integer.MIN_VALUE, MOST = Integer.MAX_VALUE;
    /** Of five plain ones that hear one perch far is said: 0 1 2 3 4 0 0. */
    private static final String FIVE = "plain 0;plain 1;plain 2;plain 3;plain 4;";
    private static final String FOUR_KINDS = "plain 1 2 3;old 4 5 6;young 7 8;sly 9 0 1;ear 2;";

    private static final Due due = new Due("PromiseTest");

    private static int feedAll(ParrotHeirs x, String text) {
        int length = 0;
        for (int i = 0; i < text.length(); i++) {
            length = x.feed(text.charAt(i));
        }
        return length;
    }

    private static int tell(ParrotHeirs x, String text) {
        feedAll(x, text);
        return x.text();
    }

    private static ParrotHeirs told(String text) {
        ParrotHeirs x = new ParrotHeirs();
        if (tell(x, text) < 0) {
            due.is("text() of " + text, -1, 0);
        }
        return x;
    }

    /** All that can be seen of PARROTS, EAR, DAY, SEEN, IMAGES, SHEETS in one text. */
    private static String look(ParrotHeirs x) {
        StringBuilder all = new StringBuilder();
        for (int what = 0; what <= 5; what++) {
            all.append(x.rule(what)).append(' ').append(x.count(what)).append(' ');
        }
        for (int p = 0; p < 5; p++) {
            for (int what = 0; what <= 15; what++) {
                all.append(x.parrot(p, what)).append(' ');
            }
            all.append(x.kinds(p)).append(' ');
        }
        return all.append(x.torn()).append(' ').append(x.fault()).toString();
    }

    private static void memory(ParrotHeirs x, int p, int... want) {
        due.is("parrot(" + p + ", 1)", x.parrot(p, 1), want.length);
        for (int i = 0; i < 6; i++) {
            due.is("parrot(" + p + ", " + (10 + i) + ")", x.parrot(p, 10 + i), i < want.length ? want[i] : NONE);
        }
    }

    private static void saidInOrder(ParrotHeirs x, int... want) {
        for (int n = 0; n < want.length; n++) {
            due.is("says(" + n + ")", x.says(n), want[n]);
        }
    }

    private static void p01NewObject() {
        ParrotHeirs x = new ParrotHeirs();
        int[] rules = {0, 0, 1, NONE, NONE, 0};
        int[] counts = {0, 0, 0, NONE, 0, 0};
        for (int what = 0; what <= 5; what++) {
            due.is("1: rule(" + what + ")", x.rule(what), rules[what]);
            due.is("1: count(" + what + ")", x.count(what), counts[what]);
        }
        for (int k = 0; k < 4; k++) {
            due.is("1: lay on nothing", x.lay(k, 0, 0), -11);
        }
        due.is("1: fault()", x.fault(), 0);
        due.is("1: torn()", x.torn(), 0);
        due.is("1: back(0)", x.back(0), STATE);
        due.is("1: back(1)", x.back(1), STATE);
        due.is("1: parrot(0, 0)", x.parrot(0, 0), BAD);
    }

    private static void p02Feed() {
        ParrotHeirs x = new ParrotHeirs();
        due.is("2: feed(0)", x.feed(0), 1);
        due.is("2: feed(127)", x.feed(127), 2);
        due.is("2: feed(-1)", x.feed(-1), BAD);
        due.is("2: feed(128)", x.feed(128), BAD);
        due.is("2: feed least", x.feed(LEAST), BAD);
        due.is("2: bytes", x.count(2), 2);
        for (int n = 3; n <= 160; n++) {
            due.is("2: feed(32)", x.feed(32), n);
        }
        due.is("2: the 161st", x.feed(32), FULL);
        due.is("2: BAD ahead of FULL", x.feed(128), BAD);
        due.is("2: bytes when full", x.count(2), 160);
    }

    private static void p03End() {
        ParrotHeirs x = new ParrotHeirs();
        due.is("3: end(0) of none", x.end(0), 0);
        due.is("3: end(1) of none", x.end(1), BAD);
        due.is("3: fed", feedAll(x, "ear 2;@@"), 8);
        due.is("3: end(9)", x.end(9), BAD);
        due.is("3: end(-1)", x.end(-1), BAD);
        due.is("3: end(8)", x.end(8), 8);
        due.is("3: end(6)", x.end(6), 8);
        due.is("3: bytes", x.count(2), 6);
        due.is("3: what is kept", x.text(), 1);
        due.is("3: ear", x.rule(2), 2);
        feedAll(x, "ab");
        due.is("3: end(0)", x.end(0), 2);
        due.is("3: behind it", x.feed('c'), 1);
    }

    private static void p04Text() {
        ParrotHeirs x = new ParrotHeirs();
        due.is("4: lines", tell(x, "plain 1 2 3;ear 3;sly 07 9; old5;  young 0 0 1 2 3 4 ;"), 5);
        due.is("4: parrots", x.rule(0), 4);
        due.is("4: ear", x.rule(2), 3);
        due.is("4: the tape", x.count(2), 0);
        int[] kinds = {0, 3, 1, 2};
        for (int p = 0; p < 4; p++) {
            due.is("4: kind", x.parrot(p, 0), kinds[p]);
            due.is("4: place", x.parrot(p, 2), 0);
        }
        memory(x, 0, 1, 2, 3);
        memory(x, 1, 7, 9);
        memory(x, 2, 5);
        memory(x, 3, 0, 0, 1, 2, 3, 4);
        x.see(0, 1);
        x.keep(0);
        x.keep(1);
        x.days(3);
        x.turn(3, 4);
        x.sheet(0, 1, 5);
        String before = look(x);
        due.is("4: a FAULT", tell(x, "old 1;old 2 x;"), -22);
        due.is("4: its tape", x.count(2), 0);
        due.is("4: its FAULT", x.fault(), 2);
        due.isTrue("4: what was told stays", before.equals(look(x).replaceAll("2$", "0")));
        due.is("4: an image stays", x.count(1), 2);
        due.is("4: told anew", tell(x, "young 8;"), 1);
        int[] rules = {1, 0, 1, 0, 8, 1};
        int[] counts = {0, 0, 0, 5, 8, 0};
        for (int what = 0; what <= 5; what++) {
            due.is("4: rule " + what, x.rule(what), rules[what]);
            due.is("4: count " + what, x.count(what), counts[what]);
        }
        due.is("4: images are gone", x.back(0), STATE);
        due.is("4: images are gone", x.back(1), STATE);
        due.is("4: an empty text", x.text(), 0);
        due.is("4: no parrots", x.rule(0), 0);
        due.is("4: blanks alone", tell(x, "   "), 0);
        due.is("4: 160 bytes", feedAll(x, " ".repeat(154) + "ear 4;"), 160);
        due.is("4: 160 bytes", x.text(), 1);
        due.is("4: ear", x.rule(2), 4);
        due.is("4: five and an ear", tell(x, FIVE + "ear 2;"), 6);
    }

    private static void faulty(String text, int fault, int place) {
        ParrotHeirs x = new ParrotHeirs();
        due.is("5: text() of '" + text + "'", tell(x, text), -10 - place);
        due.is("5: fault() of '" + text + "'", x.fault(), fault);
        due.is("5: nothing told by '" + text + "'", x.rule(0), 0);
        due.is("5: a good one behind it", tell(x, "ear 1;"), 1);
        due.is("5: its fault", x.fault(), 0);
    }

    private static void p05Fault() {
        faulty("@", 1, 0);
        faulty("  Plain 1;", 1, 2);
        faulty("plain 1\t;", 1, 7);
        faulty("plain 1\n;", 1, 7);
        faulty("ear `;", 1, 4);
        faulty("ear {;", 1, 4);
        faulty("ear /;", 1, 4);
        faulty("ear :;", 1, 4);
        faulty("\0", 1, 0);
        faulty("\177", 1, 0);
        faulty("123", 1, 0);
        faulty("plain 100;", 1, 6);
        faulty("plain 001;", 1, 6);
        faulty("plain 1 2 3 4 5 6 777;", 1, 18);
        faulty("plain 12345678901234567890;", 1, 6);
        faulty("12", 2, 0);
        faulty(" ;", 2, 1);
        faulty("plane 1;", 2, 0);
        faulty("plai 1;", 2, 0);
        faulty("plains 1;", 2, 0);
        faulty("ol 1;", 2, 0);
        faulty("slya 1;", 2, 0);
        faulty("ears 1;", 2, 0);
        faulty("plain", 2, 5);
        faulty("plain  ", 2, 7);
        faulty("plain 1", 2, 7);
        faulty("plain 1   ", 2, 10);
        faulty("ear", 2, 3);
        faulty("ear 1", 2, 5);
        faulty("plain;", 2, 5);
        faulty("plain old 1;", 2, 6);
        faulty("plain 1 old 2;", 2, 8);
        faulty("plain 1;;", 2, 8);
        faulty("ear ;", 2, 4);
        faulty("ear 1 2;", 2, 6);
        faulty("ear x 1;", 2, 4);
        faulty("plain 10;", 3, 6);
        faulty("plain 1 99 @", 3, 8);
        faulty("ear 0;", 3, 4);
        faulty("ear 5;", 3, 4);
        faulty("ear 10;", 3, 4);
        faulty("ear 2;ear 2;", 4, 6);
        faulty("ear 2; old 1; ear", 4, 14);
        faulty(FIVE + "ear 1;sly", 5, 46);
        faulty(FIVE + " old 100", 5, 41);
        faulty("plain 1 2 3 4 5 6 7;", 5, 18);
        faulty("plain 1 2 3 4 5 6 77;", 5, 18);
        faulty("sly 1 2 3 4 5 6 ear", 2, 16);
        faulty("z 1;", 2, 0);
        faulty("plainz 1;", 2, 0);
        faulty("xlain 1;", 2, 0);
        faulty("xar 1;", 2, 0);
        faulty("a".repeat(160), 2, 0);
        faulty("9".repeat(160), 1, 0);
        faulty(" ".repeat(155) + "ear 1;", 2, 160);
        ParrotHeirs x = new ParrotHeirs();
        due.is("5: out of bounds", tell(x, "ear 12"), -14);
        due.is("5: what stood behind it is gone", tell(x, "ear 1"), -15);
        due.is("5: the end", x.fault(), 2);
    }

    private static void p06Rule() {
        ParrotHeirs x = told(FOUR_KINDS);
        x.days(5);
        due.is("6: parrots", x.rule(0), 4);
        due.is("6: day", x.rule(1), 5);
        due.is("6: ear", x.rule(2), 2);
        due.is("6: which says", x.rule(3), 1);
        due.is("6: what", x.rule(4), 6);
        x = told("plain 1 2;old 4 5 6;");
        due.is("6: sounds", x.rule(5), 5);
        due.is("6: 6", x.rule(6), BAD);
        due.is("6: -1", x.rule(-1), BAD);
        x.sell(0);
        due.is("6: none says", x.rule(3), NONE);
        due.is("6: says nothing", x.rule(4), NONE);
    }

    private static void p07Parrot() {
        ParrotHeirs x = told("old 4 4 7;sly 9;");
        x.turn(0, 2);
        due.is("7: kind", x.parrot(0, 0), 1);
        due.is("7: kind", x.parrot(1, 0), 3);
        due.is("7: place", x.parrot(0, 2), 2);
        due.is("7: bits", x.parrot(0, 3), 1 << 4 | 1 << 7);
        due.is("7: bits", x.parrot(1, 3), 512);
        memory(x, 0, 4, 4, 7);
        memory(x, 1, 9);
        for (int what : new int[] {-1, 4, 5, 9, 16, LEAST, MOST}) {
            due.is("7: what " + what, x.parrot(0, what), BAD);
        }
        for (int p : new int[] {-1, 2, 5, LEAST, MOST}) {
            due.is("7: p " + p, x.parrot(p, 0), BAD);
            due.is("7: p " + p, x.parrot(p, 10), BAD);
        }
    }

    private static void p08Knows() {
        ParrotHeirs x = told("plain 1 2;old 2;young 3 1;");
        due.is("8: 1", x.knows(1), 5);
        due.is("8: 2", x.knows(2), 3);
        due.is("8: 9", x.knows(9), 0);
        due.is("8: -1", x.knows(-1), BAD);
        due.is("8: 10", x.knows(10), BAD);
        x.sell(1);
        due.is("8: those that went know nothing", x.knows(2), 1);
    }

    private static void p09Moult() {
        ParrotHeirs x = told("plain 1 2 3;");
        due.is("9: to old", x.moult(0, 1), 0);
        saidInOrder(x, 1, 3, 2, 1);
        due.is("9: to sly", x.moult(0, 3), 1);
        saidInOrder(x, 1, 3, 2, 1);
        due.is("9: to young", x.moult(0, 2), 3);
        saidInOrder(x, 1, 2, 3, 1);
        due.is("9: 4", x.moult(0, 4), BAD);
        due.is("9: -1", x.moult(0, -1), BAD);
        due.is("9: no such", x.moult(1, 0), BAD);
        due.is("9: no such", x.moult(-1, 0), BAD);
        due.is("9: kind stays", x.parrot(0, 0), 2);
    }

    private static void p10Turn() {
        ParrotHeirs x = told("old 1 2 3;");
        due.is("10: to 2", x.turn(0, 2), 0);
        saidInOrder(x, 3, 2, 1, 3);
        due.is("10: to 3", x.turn(0, 3), BAD);
        due.is("10: to -1", x.turn(0, -1), BAD);
        due.is("10: no such", x.turn(1, 0), BAD);
        due.is("10: no such", x.turn(-1, 0), BAD);
        due.is("10: stays", x.turn(0, 0), 2);
    }

    private static void p11Teach() {
        ParrotHeirs x = told("plain 1 2;old 1;young 1 2;sly 1 2;");
        due.is("11: plain, new", x.teach(0, 3), 3);
        due.is("11: plain, known", x.teach(0, 1), 3);
        due.is("11: old", x.teach(1, 3), 1);
        due.is("11: young, known", x.teach(2, 1), 3);
        due.is("11: sly, new", x.teach(3, 3), 3);
        due.is("11: sly, known", x.teach(3, 2), 3);
        memory(x, 0, 1, 2, 3);
        memory(x, 1, 1);
        memory(x, 2, 1, 2, 1);
        memory(x, 3, 3, 1, 2);
        due.is("11: sly's place", x.parrot(3, 2), 0);
        x = told("plain 1 2 3 4 5 6;young 1 2 3 4 5 6;sly 1 2 3 4 5 6;old 1 2 3 4 5 6;");
        for (int p = 0; p < 4; p++) {
            x.turn(p, 5);
            due.is("11: at six", x.teach(p, 7), 6);
            due.is("11: place stays", x.parrot(p, 2), 5);
        }
        memory(x, 0, 2, 3, 4, 5, 6, 7);
        memory(x, 1, 2, 3, 4, 5, 6, 7);
        memory(x, 2, 7, 1, 2, 3, 4, 5);
        memory(x, 3, 1, 2, 3, 4, 5, 6);
        x.teach(0, 1);
        memory(x, 0, 3, 4, 5, 6, 7, 1);
        due.is("11: sound 10", x.teach(0, 10), BAD);
        due.is("11: sound -1", x.teach(0, -1), BAD);
        due.is("11: no such", x.teach(4, 0), BAD);
        due.is("11: no such", x.teach(-1, 0), BAD);
    }

    private static void p12Ear() {
        int[] knowers = {3, 7, 15, 31};
        for (int v = 1; v <= 4; v++) {
            ParrotHeirs x = told(FIVE);
            due.is("12: ear", x.ear(v), 1);
            x.days(1);
            due.is("12: who heard it", x.knows(0), knowers[v - 1]);
            due.is("12: 0", x.ear(0), BAD);
            due.is("12: 5", x.ear(5), BAD);
            due.is("12: stays", x.rule(2), v);
        }
        ParrotHeirs x = told(FIVE);
        x.days(2);
        x.ear(2);
        x.days(1);
        due.is("12: from the middle", x.knows(2), 31);
        x.ear(1);
        x.days(1);
        due.is("12: one to each side", x.knows(3), 4 | 8 | 16);
    }

    private static void p13Perch() {
        ParrotHeirs x = new ParrotHeirs();
        for (int p = 0; p < 4; p++) {
            due.is("13: perch", x.perch(p, 9 - p), p + 1);
            due.is("13: kind", x.parrot(p, 0), p);
            due.is("13: place", x.parrot(p, 2), 0);
            memory(x, p, 9 - p);
        }
        due.is("13: kind 4", x.perch(4, 0), BAD);
        due.is("13: kind -1", x.perch(-1, 0), BAD);
        due.is("13: sound 10", x.perch(0, 10), BAD);
        due.is("13: sound -1", x.perch(0, -1), BAD);
        due.is("13: fifth", x.perch(0, 0), 5);
        due.is("13: sixth", x.perch(0, 0), FULL);
        due.is("13: BAD ahead of FULL", x.perch(0, 10), BAD);
        x = told("plain 1 2 3;");
        x.turn(0, 2);
        x.sell(0);
        x.perch(2, 5);
        due.is("13: nothing left of the one before", x.parrot(0, 2), 0);
        memory(x, 0, 5);
    }

    private static void p14Sell() {
        ParrotHeirs x = told(FIVE);
        x.days(3);
        due.is("14: 6", x.sell(6), BAD);
        due.is("14: -1", x.sell(-1), BAD);
        due.is("14: 5", x.sell(5), 5);
        due.is("14: 2", x.sell(2), 5);
        due.is("14: parrots", x.rule(0), 2);
        due.is("14: day stays", x.rule(1), 3);
        due.is("14: which says", x.rule(3), 1);
        due.is("14: 3", x.sell(3), BAD);
        due.is("14: 0", x.sell(0), 2);
        due.is("14: none", x.sell(0), 0);
    }

    private static void p15Days() {
        ParrotHeirs x = told("plain 1 2 1;");
        due.is("15: 0 days", x.days(0), 0);
        due.is("15: 1 day", x.days(1), 1);
        due.is("15: 3 days", x.days(3), 2);
        due.is("15: day", x.rule(1), 4);
        due.is("15: 31", x.days(31), BAD);
        due.is("15: -1", x.days(-1), BAD);
        due.is("15: 30", x.days(30), 2);
        due.is("15: day", x.rule(1), 34);
        x = new ParrotHeirs();
        due.is("15: without parrots", x.days(7), 0);
        due.is("15: day", x.rule(1), 7);
        x = told("plain 5;");
        for (int i = 0; i < 33; i++) {
            due.is("15: by 30", x.days(30), 1);
        }
        due.is("15: 990 and 10", x.days(10), FULL);
        due.is("15: BAD ahead of FULL", x.days(31), BAD);
        due.is("15: day stays", x.rule(1), 990);
        due.is("15: 990 and 9", x.days(9), 1);
        due.is("15: day", x.rule(1), 999);
        due.is("15: 999 and 1", x.days(1), FULL);
        due.is("15: 999 and 0", x.days(0), 0);
        due.is("15: days ahead are told all the same", x.says(60), 5);
        x = told(FIVE);
        x.days(7);
        memory(x, 0, 0, 1);
        memory(x, 1, 1, 0, 2);
        memory(x, 2, 2, 1, 3, 0);
        memory(x, 3, 3, 2, 4);
        memory(x, 4, 4, 3);
        int[] places = {1, 2, 1, 1, 1};
        for (int p = 0; p < 5; p++) {
            due.is("15: place", x.parrot(p, 2), places[p]);
        }
    }

    private static void p16Says() {
        saidInOrder(told(FIVE), 0, 1, 2, 3, 4, 0, 0);
        saidInOrder(told("plain 1 2 3;"), 1, 2, 3, 1, 2, 3, 1);
        saidInOrder(told("old 1 2 3;"), 1, 3, 2, 1, 3, 2, 1);
        saidInOrder(told("old 1 2 3 4;"), 1, 3, 1, 3);
        saidInOrder(told("old 1 2;"), 1, 1, 1);
        saidInOrder(told("old 1;"), 1, 1);
        saidInOrder(told("young 1 2 3;"), 1, 2, 3, 1, 2);
        saidInOrder(told("sly 1 2 3;"), 1, 3, 2, 1, 3);
        ParrotHeirs x = told("plain 1 2 3;");
        String before = look(x);
        due.is("16: 60", x.says(60), 1);
        due.is("16: 59", x.says(59), 3);
        due.is("16: 61", x.says(61), BAD);
        due.is("16: -1", x.says(-1), BAD);
        due.isTrue("16: changes nothing", before.equals(look(x)));
        x.days(1);
        due.is("16: from now on", x.says(0), 2);
        due.is("16: nothing", new ParrotHeirs().says(0), NONE);
        due.is("16: nothing", new ParrotHeirs().says(61), BAD);
    }

    private static void p17When() {
        ParrotHeirs x = told(FIVE);
        for (int s = 0; s < 5; s++) {
            due.is("17: when", x.when(s), s);
        }
        due.is("17: never", x.when(5), NONE);
        due.is("17: 10", x.when(10), BAD);
        due.is("17: -1", x.when(-1), BAD);
        x.days(3);
        due.is("17: from now on", x.when(3), 0);
        due.is("17: without parrots", new ParrotHeirs().when(0), NONE);
        x = told("plain 1 5 9 8 5 2;sly 5 9 4 2;old 3 5 1 7 6 8;young 0 9;plain 7 0 3;ear 1;");
        for (int n = 0; n < 60; n++) {
            due.isTrue("17: not in " + n, x.says(n) != 2);
        }
        due.is("17: in the last", x.says(60), 2);
        due.is("17: in the last", x.when(2), 60);
        x = told("sly 9;sly 7;sly 5;old 0 9 5 1;plain 4 6 4;ear 2;");
        due.is("17: one too late", x.when(7), NONE);
        x.days(1);
        due.is("17: late", x.when(7), 60);
    }

    private static void p18Often() {
        ParrotHeirs x = told("plain 1 2 1;");
        int[] times = {0, 1, 1, 2, 3, 3, 4};
        for (int n = 0; n < times.length; n++) {
            due.is("18: often(1, " + n + ")", x.often(1, n), times[n]);
        }
        due.is("18: 60", x.often(1, 60), 40);
        due.is("18: fewer behind more", x.often(1, 3), 2);
        due.is("18: 60", x.often(2, 60), 20);
        due.is("18: another", x.often(3, 60), 0);
        due.is("18: 61", x.often(1, 61), BAD);
        due.is("18: -1", x.often(1, -1), BAD);
        due.is("18: sound", x.often(10, 1), BAD);
        due.is("18: sound", x.often(-1, 1), BAD);
        due.is("18: without parrots", new ParrotHeirs().often(1, 60), 0);
    }

    private static void p19Phrase() {
        ParrotHeirs x = told(FIVE);
        due.is("19: 2 3", x.phrase(2, 3), 2);
        due.is("19: 0 1", x.phrase(0, 1), 0);
        due.is("19: 4 0", x.phrase(4, 0), 4);
        due.is("19: 0 0", x.phrase(0, 0), 5);
        due.is("19: 9 9", x.phrase(9, 9), NONE);
        due.is("19: 10", x.phrase(10, 0), BAD);
        due.is("19: -1", x.phrase(-1, 0), BAD);
        due.is("19: 10", x.phrase(0, 10), BAD);
        due.is("19: -1", x.phrase(0, -1), BAD);
        due.is("19: without parrots", new ParrotHeirs().phrase(0, 0), NONE);
        x = told("young 0 6 6 6 6;old 0 6 8 3 7;plain 6 8;sly 2 6;young 6 1;ear 1;");
        due.is("19: in the last", x.phrase(8, 7), 60);
        due.is("19: its first", x.says(60), 8);
        x.days(1);
        due.is("19: its second", x.says(60), 7);
        x = told("young 8 8 3;old 2 6 0 5;plain 5 6 5;plain 4 9 3;plain 6 9 2;ear 1;");
        due.is("19: one too late", x.phrase(2, 9), NONE);
        x.days(1);
        due.is("19: late", x.phrase(2, 9), 60);
    }

    private static void p20Ahead() {
        ParrotHeirs x = told(FIVE);
        due.is("20: knows", x.ahead(2, 7, 0), 1 | 2 | 4 | 8);
        due.is("20: how many", x.ahead(2, 7, 1), 4);
        due.is("20: place", x.ahead(1, 7, 2), 2);
        due.is("20: place", x.ahead(1, 6, 2), 1);
        due.is("20: none", x.ahead(2, 0, 0), 4);
        due.is("20: what 3", x.ahead(2, 7, 3), BAD);
        due.is("20: what -1", x.ahead(2, 7, -1), BAD);
        due.is("20: n 61", x.ahead(2, 61, 0), BAD);
        due.is("20: n -1", x.ahead(2, -1, 0), BAD);
        due.is("20: no such", x.ahead(5, 0, 0), BAD);
        due.is("20: no such", x.ahead(-1, 0, 0), BAD);
        due.is("20: nothing is changed", x.rule(1), 0);
        due.is("20: 60", told("plain 1 2 3 4 5 6;").ahead(0, 60, 2), 0);
    }

    private static void p21Lesson() {
        ParrotHeirs x = told("plain 1;plain 2;");
        // as it is, 1 2 1 1 2 2; had the second 3, it would be 1 2 1 3 ..; the first: 1 2 3 ..
        due.is("21: in 3 days", x.lesson(3, 3, 0), 0);
        due.is("21: in 3 days", x.lesson(3, 3, 1), 1);
        due.is("21: in 2 days", x.lesson(3, 2, 0), NONE);
        due.is("21: in 2 days", x.lesson(3, 2, 1), NONE);
        due.is("21: no days", x.lesson(3, 0, 0), NONE);
        x = told("old 1;sly 1;old 1;sly 1;");
        // taught to either sly one it is said once in four days, in DAY 1 or in DAY 3
        due.is("21: old ones do not, of several the first", x.lesson(7, 4, 0), 1);
        due.is("21: once", x.lesson(7, 4, 1), 1);
        due.is("21: in one day", x.lesson(7, 1, 0), NONE);
        x = told("old 1;plain 1;sly 1;");
        // the plain one has it behind 1, for DAY 4; the sly one at once, for DAY 2
        due.is("21: the best is not the first", x.lesson(7, 3, 0), 2);
        due.is("21: sound 10", x.lesson(10, 3, 0), BAD);
        due.is("21: sound -1", x.lesson(-1, 3, 0), BAD);
        due.is("21: n 61", x.lesson(1, 61, 0), BAD);
        due.is("21: n -1", x.lesson(1, -1, 0), BAD);
        due.is("21: what 2", x.lesson(1, 1, 2), BAD);
        due.is("21: what -1", x.lesson(1, 1, -1), BAD);
        due.is("21: without parrots", new ParrotHeirs().lesson(1, 60, 0), NONE);
        due.is("21: one old", told("old 1;").lesson(2, 60, 0), NONE);
        x = told("plain 1;");
        x.lesson(2, 60, 0);
        memory(x, 0, 1);
        x = told("old 1;old 1;old 1;old 1;sly 1;");
        due.is("21: the last of five", x.lesson(7, 5, 0), 4);
    }

    private static void p22Away() {
        ParrotHeirs x = told("old 1;old 2;old 1;");
        // as it is: 1 2 1 1 2 1; without the first: 2 1 2 1; without the second: 1 1 1 1
        due.is("22: least of 1", x.away(1, 4, 0), 0);
        due.is("22: least of 1", x.away(1, 4, 1), 2);
        due.is("22: least of 2", x.away(2, 4, 0), 1);
        due.is("22: least of 2", x.away(2, 4, 1), 0);
        due.is("22: none of 3", x.away(3, 4, 0), NONE);
        due.is("22: none of 3", x.away(3, 4, 1), NONE);
        due.is("22: no days", x.away(1, 0, 0), NONE);
        x.days(2);
        // DAY stays 2: of two, it is the first one's turn
        due.is("22: the day stays", x.away(1, 1, 0), 0);
        x = told("old 1;old 1;");
        due.is("22: not by either", x.away(1, 9, 0), NONE);
        x = told("old 1;");
        due.is("22: the only one", x.away(1, 9, 0), 0);
        due.is("22: the only one", x.away(1, 9, 1), 0);
        due.is("22: sound 10", x.away(10, 3, 0), BAD);
        due.is("22: sound -1", x.away(-1, 3, 0), BAD);
        due.is("22: n 61", x.away(1, 61, 0), BAD);
        due.is("22: n -1", x.away(1, -1, 0), BAD);
        due.is("22: what 2", x.away(1, 1, 2), BAD);
        due.is("22: what -1", x.away(1, 1, -1), BAD);
        due.is("22: without parrots", new ParrotHeirs().away(1, 60, 0), NONE);
        due.is("22: changes nothing", x.rule(0), 1);
        x = told("old 1;old 1;old 1;old 1;old 2;");
        due.is("22: the last of five", x.away(2, 5, 0), 4);
        due.is("22: the last of five", x.away(2, 5, 1), 0);
    }

    private static void p23Swap() {
        ParrotHeirs x = told("old 1;old 2;old 3;old 3;old 4;");
        due.is("23: 3", x.swap(3, 0), 2);
        due.is("23: 3", x.swap(3, 1), 0);
        due.is("23: 4", x.swap(4, 0), 4);
        due.is("23: 1 is first", x.swap(1, 0), NONE);
        due.is("23: 1 is first", x.swap(1, 1), NONE);
        due.is("23: 9 is never said", x.swap(9, 0), NONE);
        x.days(1);
        due.is("23: from now on", x.swap(1, 0), 1);
        due.is("23: from now on", x.swap(4, 0), 14);
        due.is("23: changes nothing", x.parrot(4, 10), 4);
        x = told("old 1 2;plain 1 2;");
        // the old one says 1 for ever; the plain one 1, then 2 in DAY 3; changed, in DAY 2
        due.is("23: kind and all", x.swap(2, 0), 1);
        due.is("23: kind and all", x.swap(2, 1), 2);
        x = told("old 3 4;old 5 6;");
        x.turn(1, 1);
        due.is("23: place and all", x.swap(6, 1), 0);
        due.is("23: sound 10", x.swap(10, 0), BAD);
        due.is("23: sound -1", x.swap(-1, 0), BAD);
        due.is("23: what 2", x.swap(1, 2), BAD);
        due.is("23: what -1", x.swap(1, -1), BAD);
        due.is("23: one alone", told("old 1;").swap(2, 0), NONE);
        due.is("23: without parrots", new ParrotHeirs().swap(2, 0), NONE);
    }

    private static void p24Far() {
        ParrotHeirs x = told("plain 0;plain 1;plain 2;plain 3;plain 4;ear 3;");
        due.is("24: in one day", x.far(0, 1), 4);
        due.is("24: 2 in three days", x.far(2, 3), 2);
        due.is("24: 2 in two days", x.far(2, 2), NONE);
        due.is("24: ear stays", x.rule(2), 3);
        due.is("24: all know it now", told("old 1;old 1;").far(1, 0), 1);
        due.is("24: old ones do not learn", told("old 1;old 2;").far(1, 60), NONE);
        due.is("24: sound 10", x.far(10, 0), BAD);
        due.is("24: sound -1", x.far(-1, 0), BAD);
        due.is("24: n 61", x.far(1, 61), BAD);
        due.is("24: n -1", x.far(1, -1), BAD);
        due.is("24: of none all know it", new ParrotHeirs().far(1, 0), 1);
        x = new ParrotHeirs();
        x.perch(0, 1);
        x.perch(1, 2);
        x.perch(0, 3);
        due.is("24: as it is now", x.far(1, 0), NONE);
        x.moult(1, 0);
        due.is("24: as it is now", x.far(1, 1), 2);
        x.teach(2, 1);
        due.is("24: as it is now", x.far(1, 1), 1);
    }

    private static void p25Kind() {
        ParrotHeirs x = told("young 1 2 3;");
        // plain 1 2 3 1, old 1 3 2 1, young 1 2 3 1, sly 1 3 2 1
        due.is("25: 1", x.kind(0, 1, 4, 0), 0);
        due.is("25: 1", x.kind(0, 1, 4, 1), 2);
        due.is("25: 3 in two days", x.kind(0, 3, 2, 0), 1);
        due.is("25: 3 in two days", x.kind(0, 3, 2, 1), 1);
        due.is("25: 9", x.kind(0, 9, 60, 0), 0);
        due.is("25: 9", x.kind(0, 9, 60, 1), 0);
        due.is("25: kind stays", x.parrot(0, 0), 2);
        x = told("plain 1 2 3 4;");
        // old 1 3 1 3; sly 1 4 3 2
        due.is("25: sly", x.kind(0, 4, 2, 0), 3);
        x.teach(0, 5);
        x.turn(0, 3);
        due.is("25: as it is now", x.kind(0, 5, 2, 0), 0);
        due.is("25: as it is now", x.kind(0, 5, 2, 1), 1);
        due.is("25: no such", x.kind(1, 1, 1, 0), BAD);
        due.is("25: no such", x.kind(-1, 1, 1, 0), BAD);
        due.is("25: sound 10", x.kind(0, 10, 1, 0), BAD);
        due.is("25: sound -1", x.kind(0, -1, 1, 0), BAD);
        due.is("25: n 61", x.kind(0, 1, 61, 0), BAD);
        due.is("25: n -1", x.kind(0, 1, -1, 0), BAD);
        due.is("25: what 2", x.kind(0, 1, 1, 2), BAD);
        due.is("25: what -1", x.kind(0, 1, 1, -1), BAD);
    }

    private static void fraction(String call, long top, long bottom, long wantTop, long wantBottom) {
        due.is(call + ", 0", top, wantTop);
        due.is(call + ", 1", bottom, wantBottom);
    }

    private static void p26Luck() {
        ParrotHeirs x = told("plain 1;plain 2;");
        fraction("26: one day", x.luck(3, 1, 1, 1, 0), x.luck(3, 1, 1, 1, 1), 7, 10);
        // in DAY 1 the other one speaks: it would have to be DAY 0 or DAY 2
        fraction("26: two days", x.luck(3, 1, 1, 2, 0), x.luck(3, 1, 1, 2, 1), 7, 10);
        fraction("26: three days", x.luck(3, 1, 1, 3, 0), x.luck(3, 1, 1, 3, 1), 91, 100);
        fraction("26: lowest", x.luck(4, 1, 1, 1, 0), x.luck(4, 1, 1, 1, 1), 3, 5);
        fraction("26: no days", x.luck(3, 1, 1, 0, 0), x.luck(3, 1, 1, 0, 1), 0, 1);
        fraction("26: known", x.luck(3, 0, 1, 8, 0), x.luck(3, 0, 1, 8, 1), 1, 1);
        fraction("26: ten of ten", x.luck(10, 1, 1, 8, 0), x.luck(10, 1, 1, 8, 1), 0, 1);
        fraction("26: none of ten", x.luck(0, 1, 1, 1, 0), x.luck(0, 1, 1, 1, 1), 1, 1);
        // the first one speaks on four of eight days: all less 9 / 10 to the fourth
        fraction("26: eight days", x.luck(9, 1, 1, 8, 0), x.luck(9, 1, 1, 8, 1), 3439, 10000);
        due.is("26: v 11", x.luck(11, 0, 1, 1, 0), BAD);
        due.is("26: v -1", x.luck(-1, 0, 1, 1, 0), BAD);
        due.is("26: no such", x.luck(1, 2, 1, 1, 0), BAD);
        due.is("26: no such", x.luck(1, -1, 1, 1, 0), BAD);
        due.is("26: sound 10", x.luck(1, 0, 10, 1, 0), BAD);
        due.is("26: sound -1", x.luck(1, 0, -1, 1, 0), BAD);
        due.is("26: n 9", x.luck(1, 0, 1, 9, 0), BAD);
        due.is("26: n -1", x.luck(1, 0, 1, -1, 0), BAD);
        due.is("26: what 2", x.luck(1, 0, 1, 1, 2), BAD);
        due.is("26: what -1", x.luck(1, 0, 1, 1, -1), BAD);
        due.is("26: changes nothing", x.rule(1), 0);
    }

    private static void p27Mean() {
        ParrotHeirs x = told("plain 1;plain 2;plain 3;ear 4;");
        fraction("27: one day", x.mean(3, 1, 1, 0), x.mean(3, 1, 1, 1), 12, 5);
        fraction("27: no days", x.mean(3, 1, 0, 0), x.mean(3, 1, 0, 1), 1, 1);
        fraction("27: never", x.mean(3, 9, 8, 0), x.mean(3, 9, 8, 1), 0, 1);
        fraction("27: all", x.mean(0, 1, 8, 0), x.mean(0, 1, 8, 1), 3, 1);
        // in DAY 1 the two others hear it, by half
        fraction("27: two days", x.mean(5, 2, 2, 0), x.mean(5, 2, 2, 1), 2, 1);
        fraction("27: without parrots", new ParrotHeirs().mean(5, 1, 8, 0), new ParrotHeirs().mean(5, 1, 8, 1), 0, 1);
        due.is("27: v 11", x.mean(11, 1, 1, 0), BAD);
        due.is("27: v -1", x.mean(-1, 1, 1, 0), BAD);
        due.is("27: sound 10", x.mean(1, 10, 1, 0), BAD);
        due.is("27: sound -1", x.mean(1, -1, 1, 0), BAD);
        due.is("27: n 9", x.mean(1, 1, 9, 0), BAD);
        due.is("27: n -1", x.mean(1, 1, -1, 0), BAD);
        due.is("27: what 2", x.mean(1, 1, 1, 2), BAD);
        due.is("27: what -1", x.mean(1, 1, 1, -1), BAD);
    }

    private static void p28See() {
        ParrotHeirs x = told("plain 1 2 3;");
        due.is("28: n -1", x.see(-1, 0), BAD);
        due.is("28: n 21", x.see(21, 0), BAD);
        due.is("28: sound 10", x.see(0, 10), BAD);
        due.is("28: sound -1", x.see(0, -1), BAD);
        due.is("28: none yet", x.count(0), 0);
        for (int i = 1; i <= 6; i++) {
            due.is("28: see", x.see(20, 3), i);
        }
        due.is("28: the seventh", x.see(0, 1), FULL);
        due.is("28: BAD ahead of FULL", x.see(21, 1), BAD);
        due.is("28: count", x.count(0), 6);
        due.is("28: so it is", x.kinds(0), 1 | 4);
    }

    private static void p29Forget() {
        ParrotHeirs x = told("plain 1 2 3;");
        x.see(0, 1);
        x.see(1, 9);
        due.is("29: 3", x.forget(3), BAD);
        due.is("29: -1", x.forget(-1), BAD);
        due.is("29: both", x.kinds(0), 0);
        due.is("29: 2", x.forget(2), 2);
        due.is("29: 1", x.forget(1), 2);
        due.is("29: the first alone", x.kinds(0), 15);
        due.is("29: 2 of 1", x.forget(2), BAD);
        due.is("29: 0", x.forget(0), 1);
        due.is("29: none", x.forget(0), 0);
    }

    private static void p30Kinds() {
        ParrotHeirs x = told("sly 1 2 3 4;old 9;");
        due.is("30: nothing seen", x.kinds(0), 15);
        x.see(2, 3);
        // in DAY 2 the first says: plain 2, old 3, young 2, sly, with 9 come ahead of all, 3
        due.is("30: old or sly", x.kinds(0), 2 | 8);
        // a sly other one has 1 ahead by DAY 1, so that the first has its 4 in DAY 2
        due.is("30: the other", x.kinds(1), 7);
        x.see(4, 1);
        // in DAY 4: the old one 1; the sly one its 2
        due.is("30: old", x.kinds(0), 2);
        due.is("30: the other, with a sly one", x.kinds(1), 0);
        x.see(1, 8);
        due.is("30: by none", x.kinds(0), 0);
        due.is("30: no such", x.kinds(2), BAD);
        due.is("30: no such", x.kinds(-1), BAD);
        due.is("30: kind stays", x.parrot(0, 0), 3);
    }

    private static void p31Sounds() {
        ParrotHeirs x = told("old 1 2 3;old 4;");
        due.is("31: nothing seen", x.sounds(0, 1), 1023);
        x.see(0, 1);
        due.is("31: the first", x.sounds(0, 0), 2);
        due.is("31: not the second", x.sounds(0, 1), 1023);
        x.see(2, 7);
        // in DAY 2 the first says its third
        due.is("31: the third", x.sounds(0, 2), 128);
        due.is("31: else as it is", x.sounds(0, 1), 0);
        due.is("31: not so many", x.sounds(0, 3), BAD);
        due.is("31: not so many", x.sounds(1, 1), BAD);
        due.is("31: i -1", x.sounds(0, -1), BAD);
        due.is("31: no such", x.sounds(2, 0), BAD);
        due.is("31: no such", x.sounds(-1, 0), BAD);
        memory(x, 0, 1, 2, 3);
    }

    private static void p32Ask() {
        ParrotHeirs x = told("old 1 2 3;old 4;");
        due.is("32: the first, at once", x.ask(0, 0, 0), 0);
        due.is("32: one left", x.ask(0, 0, 1), 1);
        due.is("32: the third, in DAY 2", x.ask(0, 2, 0), 2);
        due.is("32: the second, in DAY 4", x.ask(0, 1, 0), 4);
        due.is("32: the other", x.ask(1, 0, 0), 1);
        due.is("32: the first once more", x.ask(0, 0, 0), 0);
        x.see(0, 1);
        due.is("32: known by now", x.ask(0, 0, 0), NONE);
        due.is("32: known by now", x.ask(0, 0, 1), NONE);
        x.see(1, 5);
        due.is("32: none left", x.ask(0, 0, 0), NONE);
        due.is("32: it may be", x.ask(1, 0, 0), NONE);
        due.is("32: what 2", x.ask(0, 0, 2), BAD);
        due.is("32: what -1", x.ask(0, 0, -1), BAD);
        due.is("32: not so many", x.ask(0, 3, 0), BAD);
        due.is("32: i -1", x.ask(0, -1, 0), BAD);
        due.is("32: no such", x.ask(2, 0, 0), BAD);
        due.is("32: no such", x.ask(-1, 0, 0), BAD);
        x = told("old 1 2;");
        due.is("32: never said", x.ask(0, 1, 0), NONE);
        x = told("sly 1;plain 2 3;");
        // the second's second SOUND is heard in DAY 3: the sly one's own, in DAY 2, is what was said in DAY 1
        due.is("32: in DAY 3", x.ask(1, 1, 0), 3);
        x.turn(1, 1);
        due.is("32: as it is now", x.ask(1, 1, 0), 1);
        x = told("sly 1 2 3 4 5 6;old 1;old 1;old 1;");
        due.is("32: in DAY 20", x.ask(0, 1, 0), 20);
        due.is("32: in DAY 20", x.ask(0, 1, 1), 1);
        x = told("old 1;sly 1 2 3 4 5 6;old 1;old 1;");
        due.is("32: in DAY 21", x.ask(1, 1, 0), NONE);
        x = told("old 0;plain 1 2 3 7 4;old 0;old 0;");
        x.turn(1, 4);
        // if it is 0 already, 0 does not come behind all for DAY 5; it is itself said in DAY 21
        due.is("32: 0 or not", x.ask(1, 3, 0), 5);
        due.is("32: nine at the worst", x.ask(1, 3, 1), 9);
    }

    private static void p33Drift() {
        ParrotHeirs x = told("plain 1;");
        // 1 times 1103515245 and 12345 is 1103527590: 16838 is got; 16838 by 8 is 2104: 4
        due.is("33: ahead of it it learns", x.drift(1, 1, 0), 1);
        ParrotHeirs y = told("sly 1;");
        due.is("33: a sly one", y.drift(1, 1, 0), 4);
        due.is("33: one", y.drift(1, 1, 1), 1);
        ParrotHeirs z = told("old 1;sly 2;");
        // 16838 leaves 0 by 2: an old one learns nothing
        due.is("33: which", z.drift(1, 1, 0), 1);
        due.is("33: by itself", z.rule(1), 0);
        due.is("33: n 0", z.drift(1, 0, 0), BAD);
        due.is("33: n 61", z.drift(1, 61, 0), BAD);
        due.is("33: what 2", z.drift(1, 1, 2), BAD);
        due.is("33: what -1", z.drift(1, 1, -1), BAD);
        due.is("33: no parrots", new ParrotHeirs().drift(1, 1, 0), STATE);
        due.is("33: BAD ahead of STATE", new ParrotHeirs().drift(1, 61, 0), BAD);
        // -1 times 1103515245 and 12345 is -1103502900: bits 16 to 30 are 15929, its eighth 1991: 1
        due.is("33: below 0", told("sly 5;").drift(-1, 1, 0), 1);
        due.is("33: 60 days", told("old 5;").drift(LEAST, 60, 0), 5);
        due.is("33: 60 days", told("old 5;").drift(MOST, 60, 1), 1);
        int[] bySeed = {0, 4, 3, 8, 7, 1, 0, 5, 4, 9, 7, 2, 1, 6, 5, 9, 8, 3, 2, 7};
        for (int seed = 0; seed < bySeed.length; seed++) {
            due.is("33: by seed " + seed, told("sly 0;").drift(seed, 1, 0), bySeed[seed]);
        }
        int[][] runs = {{1, 60, 9, 10}, {7, 60, 7, 10}, {12345, 60, 5, 10}, {-1, 60, 6, 10}, {MOST, 60, 6, 10},
            {LEAST, 30, 7, 7}, {0, 20, 2, 6}, {99, 7, 3, 5}};
        for (int[] run : runs) {
            x = told("plain 1 2 3;sly 4 5 6;young 7;");
            due.is("33: last, by seed " + run[0], x.drift(run[0], run[1], 0), run[2]);
            due.is("33: unlike, by seed " + run[0], x.drift(run[0], run[1], 1), run[3]);
        }
    }

    private static void p34Keep() {
        ParrotHeirs x = told("plain 1 2;");
        due.is("34: new", x.keep(0), 0);
        due.is("34: again", x.keep(0), 1);
        due.is("34: the other", x.keep(1), 0);
        due.is("34: 2", x.keep(2), BAD);
        due.is("34: -1", x.keep(-1), BAD);
        due.is("34: both", x.count(1), 2);
        x.days(1);
        x.keep(0);
        x.days(1);
        due.is("34: the later one", x.back(0), 1);
        x = told("plain 1 2 3;");
        x.see(0, 1);
        x.see(1, 2);
        x.keep(0);
        x.forget(0);
        x.see(2, 9);
        x.keep(1);
        x.see(3, 9);
        x.back(0);
        due.is("34: what was SEEN", x.count(0), 2);
        due.is("34: what was SEEN", x.kinds(0), 5);
        due.is("34: what was SEEN", x.sounds(0, 1), 4);
        x.back(1);
        due.is("34: in the other", x.count(0), 1);
        due.is("34: in the other", x.sounds(0, 2), 512);
        for (int i = 2; i <= 6; i++) {
            x.see(5, 9);
        }
        x.keep(0);
        x.forget(0);
        x.back(0);
        due.is("34: six SEEN", x.count(0), 6);
        due.is("34: six SEEN", x.sounds(0, 2), 512);
    }

    private static void p35Back() {
        ParrotHeirs x = told(FOUR_KINDS);
        x.days(3);
        x.see(2, 1);
        due.is("35: none", x.back(0), STATE);
        due.is("35: 2", x.back(2), BAD);
        due.is("35: -1", x.back(-1), BAD);
        x.keep(1);
        String before = look(x);
        feedAll(x, "ab");
        x.days(9);
        x.ear(4);
        x.moult(2, 0);
        x.forget(0);
        x.see(5, 5);
        x.see(6, 6);
        x.sell(2);
        x.perch(0, 0);
        due.is("35: the other is none", x.back(0), STATE);
        due.is("35: day", x.back(1), 3);
        due.is("35: the tape stays", x.end(0), 2);
        due.isTrue("35: all is as it was", before.equals(look(x)));
        due.is("35: seen", x.count(0), 1);
        x.days(2);
        x.teach(0, 8);
        due.is("35: and once more", x.back(1), 3);
        due.isTrue("35: all is as it was", before.equals(look(x)));
    }

    private static void p36Sheet() {
        ParrotHeirs x = new ParrotHeirs();
        due.is("36: k 4", x.sheet(4, 0, 1), BAD);
        due.is("36: k -1", x.sheet(-1, 0, 1), BAD);
        due.is("36: lane 3", x.sheet(0, 3, 1), BAD);
        due.is("36: lane -1", x.sheet(0, -1, 1), BAD);
        due.is("36: n 41", x.sheet(0, 0, 41), BAD);
        due.is("36: n most", x.sheet(0, 0, MOST), BAD);
        due.is("36: n -1", x.sheet(0, 0, -1), -14);
        due.is("36: n least", x.sheet(3, 2, LEAST), -14);
        due.is("36: BAD ahead of SIZE", x.sheet(4, 2, -1), BAD);
        due.is("36: BAD ahead of SIZE", x.sheet(0, 3, -1), BAD);
        due.is("36: nothing yet", x.count(3), NONE);
        due.is("36: no cells", x.sheet(0, 0, 0), 1);
        due.is("36: no cells", x.count(3), 0);
        due.is("36: 40 cells", x.sheet(0, 2, 40), 1);
        due.is("36: 40 cells", x.count(3), 40);
        due.is("36: last", x.lay(0, 39, 1), 1);
        due.is("36: SIZE leaves it", x.sheet(0, 0, -5), -14);
        due.is("36: SIZE leaves it", x.count(3), 40);
        x = told("sly 5;");
        x.sheet(1, 0, 2);
        x.lay(1, 0, 9);
        x.lay(1, 1, 9);
        x.sheet(1, 0, 2);
        due.is("36: cells are 0", x.read(1, 0, 0, 1), 1);
        due.is("36: cells are 0", x.parrot(0, 10), 0);
    }

    private static void p37Lay() {
        ParrotHeirs x = told("young 5;");
        due.is("37: nothing", x.lay(0, -1, 0), -11);
        due.is("37: k 4", x.lay(4, 0, 0), BAD);
        due.is("37: k -1", x.lay(-1, 0, 0), BAD);
        for (int lane = 0; lane < 3; lane++) {
            x.sheet(lane, lane, 2);
            due.is("37: i 2", x.lay(lane, 2, 0), -12);
            due.is("37: i -1", x.lay(lane, -1, 0), -12);
            due.is("37: i most", x.lay(lane, MOST, 0), -12);
            due.is("37: i least", x.lay(lane, LEAST, 0), -12);
            due.is("37: lay", x.lay(lane, 0, 0), 1);
            due.is("37: its lowest bits", x.lay(lane, 1, 65536 + 3), 1);
            due.is("37: read", x.read(lane, lane, 0, 1), lane == 2 ? -20 : 1);
            x.lay(lane, 1, 256 + 4);
            due.is("37: read", x.read(lane, lane, 0, 1), lane == 0 ? 1 : -20);
            x.lay(lane, 1, 128);
            due.is("37: read", x.read(lane, lane, 0, 1), -20);
        }
        memory(x, 0, 5, 3, 4, 3);
    }

    private static void layRow(ParrotHeirs x, int k, int... cells) {
        for (int i = 0; i < cells.length; i++) {
            due.is("lay", x.lay(k, i, cells[i]), 1);
        }
    }

    private static void p38Read() {
        ParrotHeirs x = told("young 0;sly 1;old 2;");
        x.sheet(2, 1, 7);
        layRow(x, 2, 0, 3, 1, 4, 2, 5, 0);
        due.is("38: none", x.read(2, 1, 0, 0), 0);
        due.is("38: three", x.read(2, 1, 0, 3), 3);
        due.is("38: torn", x.torn(), 0);
        memory(x, 0, 0, 3);
        memory(x, 1, 4, 1);
        memory(x, 2, 2);
        due.is("38: the fourth is not whole", x.read(2, 1, 0, 4), 3);
        due.is("38: INDEX", x.torn(), 2);
        memory(x, 0, 0, 3, 3);
        due.is("38: from 2 on", x.read(2, 1, 2, 2), 2);
        due.is("38: no fault", x.torn(), 0);
        due.is("38: from 2 on, one too many", x.read(2, 1, 2, 3), 2);
        due.is("38: INDEX", x.torn(), 2);
        due.is("38: from 6 on", x.read(2, 1, 6, 1), 0);
        due.is("38: from 7 on", x.read(2, 1, 7, 1), 0);
        due.is("38: from -1 on", x.read(2, 1, -1, 2), 0);
        due.is("38: INDEX", x.torn(), 2);
        due.is("38: most", x.read(2, 1, MOST, 20), 0);
        due.is("38: least", x.read(2, 1, LEAST, 20), 0);
        due.is("38: anywhere, none", x.read(2, 1, 99, 0), 0);
        due.is("38: no fault", x.torn(), 0);
        due.is("38: as INTS", x.read(2, 2, 0, 1), 0);
        due.is("38: CAST", x.torn(), 3);
        due.is("38: of nothing", x.read(3, 0, -1, 1), 0);
        due.is("38: NULL", x.torn(), 1);
        String before = look(x);
        due.is("38: from 1 on: 3 is no parrot", x.read(2, 1, 1, 1), -20);
        layRow(x, 2, 0, 3, 1, 10);
        due.is("38: the second", x.read(2, 1, 0, 4), -21);
        layRow(x, 2, 0, 3, 1, 4, 3, 5);
        due.is("38: the third", x.read(2, 1, 0, 4), -22);
        due.is("38: the first met", x.read(2, 1, 0, 2), 2);
        x = told("young 0;sly 1;old 2;");
        x.sheet(2, 1, 7);
        layRow(x, 2, 0, 3, 0, 3, 0, -1, 9);
        before = look(x);
        due.is("38: refused", x.read(2, 1, 0, 4), -22);
        due.isTrue("38: then none came", before.equals(look(x)));
        due.is("38: k 4", x.read(4, 0, 0, 0), BAD);
        due.is("38: k -1", x.read(-1, 0, 0, 0), BAD);
        due.is("38: lane 3", x.read(2, 3, 0, 0), BAD);
        due.is("38: lane -1", x.read(2, -1, 0, 0), BAD);
        due.is("38: n 21", x.read(2, 1, 0, 21), BAD);
        due.is("38: n -1", x.read(2, 1, 0, -1), BAD);
        x = told("young 4;");
        x.sheet(0, 0, 40);
        due.is("38: twenty", x.read(0, 0, 0, 20), 20);
        memory(x, 0, 0, 0, 0, 0, 0, 0);
        x = new ParrotHeirs();
        x.sheet(0, 0, 2);
        due.is("38: without parrots", x.read(0, 0, 0, 1), -20);
    }

    private static void p39Torn() {
        ParrotHeirs x = told("young 0;");
        x.sheet(0, 0, 3);
        x.read(0, 1, 0, 1);
        due.is("39: CAST", x.torn(), 3);
        x.read(0, 1, 0, 21);
        due.is("39: BAD leaves it", x.torn(), 3);
        x.read(0, 1, 0, -1);
        due.is("39: BAD leaves it", x.torn(), 3);
        x.lay(0, 1, 10);
        x.read(0, 0, 0, 2);
        due.is("39: a refused one leaves it", x.torn(), 3);
        x.lay(0, 1, 9);
        x.read(0, 0, 0, 2);
        due.is("39: INDEX", x.torn(), 2);
        x.read(1, 0, 0, 1);
        due.is("39: NULL", x.torn(), 1);
        x.read(1, 0, 0, 0);
        due.is("39: none are read of nothing", x.torn(), 0);
        x.read(0, 2, 0, 1);
        due.is("39: CAST ahead of none", x.torn(), 3);
        x.read(0, 0, 0, 1);
        due.is("39: none", x.torn(), 0);
        x.sheet(0, 0, -1);
        due.is("39: of read alone", x.torn(), 0);
        noneReadIsNotTorn();
    }

    /** Whatever the SHEET is, wherever it begins, and whatever was torn ahead of it. */
    private static void noneReadIsNotTorn() {
        ParrotHeirs x = told("young 0;");
        x.sheet(1, 0, 0);
        x.sheet(2, 1, 2);
        x.sheet(3, 2, 40);
        for (int k = 0; k < 4; k++) {
            for (int lane = 0; lane < 3; lane++) {
                x.read(0, 0, 0, 1);
                due.is("39: NULL ahead of it", x.torn(), 1);
                due.is("39: no times", x.read(k, lane, lane == 0 ? LEAST : lane == 1 ? 0 : MOST, 0), 0);
                due.is("39: SHEET " + k + " as of lane " + lane, x.torn(), 0);
            }
        }
    }

    private static void p40Count() {
        ParrotHeirs x = told("plain 1 2 3;old 9 9;");
        x.see(1, 1);
        x.see(2, 1);
        x.keep(1);
        feedAll(x, "abc");
        x.sheet(0, 2, 7);
        x.sheet(1, 2, 9);
        x.turn(0, 2);
        x.turn(1, 1);
        int[] counts = {2, 1, 3, 7, 24, 3};
        for (int what = 0; what <= 5; what++) {
            due.is("40: count(" + what + ")", x.count(what), counts[what]);
        }
        due.is("40: 6", x.count(6), BAD);
        due.is("40: -1", x.count(-1), BAD);
        x.sell(1);
        due.is("40: sounds", x.count(4), 6);
        due.is("40: places", x.count(5), 2);
    }

    public static void main(String[] args) {
        p01NewObject();
        p02Feed();
        p03End();
        p04Text();
        p05Fault();
        p06Rule();
        p07Parrot();
        p08Knows();
        p09Moult();
        p10Turn();
        p11Teach();
        p12Ear();
        p13Perch();
        p14Sell();
        p15Days();
        p16Says();
        p17When();
        p18Often();
        p19Phrase();
        p20Ahead();
        p21Lesson();
        p22Away();
        p23Swap();
        p24Far();
        p25Kind();
        p26Luck();
        p27Mean();
        p28See();
        p29Forget();
        p30Kinds();
        p31Sounds();
        p32Ask();
        p33Drift();
        p34Keep();
        p35Back();
        p36Sheet();
        p37Lay();
        p38Read();
        p39Torn();
        p40Count();
        due.close();
    }
}
