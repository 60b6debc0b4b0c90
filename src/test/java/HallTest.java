/** Promises 1 to 9: the new object, the text, the hall, pegs, odds, counts, guests. */
public final class HallTest {
    private static final int NONE = -1, UNKNOWN = -1001, OUTSIDE = -1002, NOT = -1003, FULL = -1004;
    private static final int LEAST = Integer.MIN_VALUE, MOST = Integer.MAX_VALUE;

    public static void main(String[] args) {
        newObject();
        feeding();
        goodTexts();
        cannotStand();
        badNumbers();
        toldAlready();
        tooManyPegs();
        notHundred();
        leastOfLikePlaces();
        hallAndState();
        pegs();
        odds();
        counts();
        guests();
        told();
        Due.end();
    }

    private static void newObject() {
        CoatsHall x = new CoatsHall();
        int[] due = {0, 0, 0, 0, 0, 0, 2, 1, 1, 2, 5};
        for (int what = 0; what <= 10; what++) Due.is("1: count(" + what + ")", x.count(what), due[what]);
        for (int sort = 0; sort < 4; sort++) {
            Due.is("1: odds A", x.odds(sort, 0), 10);
            Due.is("1: odds B", x.odds(sort, 1), 20);
            Due.is("1: odds C", x.odds(sort, 2), 70);
        }
        Due.is("1: peg(0, 0)", x.peg(0, 0), UNKNOWN);
        Due.is("1: told(0, 0)", x.told(0, 0), UNKNOWN);
        Due.is("1: event(0, 0)", x.event(0, 0), UNKNOWN);
        Due.is("1: fits(0)", x.fits(0), UNKNOWN);
        Due.is("1: ways()", x.ways(), 1);
        Due.is("1: astray()", x.astray(), 0);
        Due.is("1: exchanges()", x.exchanges(), 0);
        Due.is("1: goBack(0)", x.goBack(0), NOT);
        Due.is("1: fault()", x.fault(), NONE);
        Due.is("NONE", CoatsHall.NONE, -1);
        Due.is("UNKNOWN", CoatsHall.UNKNOWN, -1001);
        Due.is("OUTSIDE", CoatsHall.OUTSIDE, -1002);
        Due.is("NOT", CoatsHall.NOT, -1003);
        Due.is("FULL", CoatsHall.FULL, -1004);
    }

    private static void feeding() {
        CoatsHall x = new CoatsHall();
        Due.is("2: feed(0)", x.feed(0, 0L), OUTSIDE);
        Due.is("2: feed(9)", x.feed(9, 0L), OUTSIDE);
        Due.is("2: feed(-1)", x.feed(-1, 0L), OUTSIDE);
        Due.is("2: feed(most)", x.feed(MOST, 0L), OUTSIDE);
        Due.is("2: feed(least)", x.feed(LEAST, 0L), OUTSIDE);
        Due.is("2: nothing fed", x.count(5), 0);
        // The higher bytes of the long are not taken.
        Due.is("2: feed(3)", x.feed(3, Due.bytesOf("weigive")), 3);
        Due.is("2: feed(2)", x.feed(2, Due.bytesOf("e 7")), 5);
        Due.is("2: feed(1)", x.feed(1, Due.bytesOf(";")), 6);
        Due.is("2: 'ive 7;' is no hall", x.hall(), -11);
        Due.feed(x, "give 7;");
        Due.is("2: 'give 7;'", x.hall(), 0);
        Due.is("2: give is 7", x.count(6), 7);
        for (int i = 1; i <= 29; i++) Due.is("2: blanks", x.feed(8, Due.bytesOf("        ")), 8 * i);
        Due.is("2: 234", x.feed(2, Due.bytesOf("  ")), 234);
        Due.is("2: 242 are too many", x.feed(8, 0L), FULL);
        Due.is("2: 241 are too many", x.feed(7, 0L), FULL);
        Due.is("2: OUTSIDE before FULL", x.feed(9, 0L), OUTSIDE);
        Due.is("2: 234 still", x.count(5), 234);
        Due.is("2: 240", x.feed(6, Due.bytesOf("give8;")), 240);
        Due.is("2: 241", x.feed(1, 0L), FULL);
        Due.is("2: all 240 are read", x.hall(), 0);
        Due.is("2: give is 8", x.count(6), 8);
        Due.is("2: negative long", x.feed(8, -1L), 8);
        Due.is("2: bytes of 255", x.hall(), -11);
    }

    private static void goodTexts() {
        Due.faultless("", 0);
        Due.faultless("   ", 0);
        Due.faultless("row1kind0walk0;", 1);
        Due.faultless("row24kind2walk99;", 24);
        Due.faultless("  row  001  kind  02  walk  099  ;  ", 1);
        Due.faultless("row 12 kind 0 walk 0;row 12 kind 1 walk 0;", 24);
        Due.faultless("odds 0 100 0 0;odds 1 0 100 0;odds 2 0 0 100;odds 3 33 33 34;", 0);
        Due.faultless("weights 9 9 9;give 20;less 20;", 0);
        Due.faultless("weights0 0 0;give 0;less 0;row 1 kind 1 walk 1;", 1);
    }

    private static void cannotStand() {
        Due.faulty("a", 1, 0);
        Due.faulty(";", 1, 0);
        Due.faulty("  7", 1, 2);
        Due.faulty("ro", 1, 0);
        Due.faulty("Row 1 kind 0 walk 0;", 1, 0);
        Due.faulty("ro w 1 kind 0 walk 0;", 1, 0);
        Due.faulty("rowkind 1 kind 0 walk 0;", 1, 0);
        Due.faulty("row", 1, 3);
        Due.faulty("row  ", 1, 5);
        Due.faulty("row ;", 1, 4);
        Due.faulty("row kind", 1, 4);
        Due.faulty("row 1 2 kind 0 walk 0;", 1, 6);
        Due.faulty("row 1 kin 0 walk 0;", 1, 6);
        Due.faulty("row 1 kinds 0 walk 0;", 1, 6);
        Due.faulty("row 1 walk 0 kind 0;", 1, 6);
        Due.faulty("row 1 kind 0 walk 0", 1, 19);
        Due.faulty("row 1 kind 0 walk 0 row", 1, 20);
        Due.faulty("row 1 kind 0 walk 0;;", 1, 20);
        Due.faulty("row 1 kind 0 walk 0;x", 1, 20);
        Due.faulty("row 1\tkind 0 walk 0;", 1, 5);
        Due.faulty("row 1\u0000kind 0 walk 0;", 1, 5);
        Due.faulty("row 1\u00e9kind 0 walk 0;", 1, 5);
        Due.faulty("row -1 kind 0 walk 0;", 1, 4);
        Due.faulty("odds 0 10 20;", 1, 12);
        Due.faulty("odds 0 10 20 70 0;", 1, 16);
        Due.faulty("weights 1 2;", 1, 11);
        Due.faulty("weights 1 2 3 4;", 1, 14);
        Due.faulty("give;", 1, 4);
        Due.faulty("give 1 2;", 1, 7);
        Due.faulty("less x;", 1, 5);
        Due.faulty("less 1", 1, 6);
    }

    private static void badNumbers() {
        Due.faulty("row 0 kind 0 walk 0;", 2, 4);
        Due.faulty("row 25 kind 0 walk 0;", 2, 4);
        Due.faulty("row  0001 kind 0 walk 0;", 2, 5);
        Due.faulty("row 1 kind 3 walk 0;", 2, 11);
        Due.faulty("row 1 kind 0 walk 100;", 2, 18);
        Due.faulty("row 1 kind 0 walk 0000", 2, 18);
        Due.faulty("odds 4 10 20 70;", 2, 5);
        Due.faulty("odds 0 101 0 0;", 2, 7);
        Due.faulty("odds 0 0 101 0;", 2, 9);
        Due.faulty("odds 0 0 0 101;", 2, 11);
        Due.faulty("weights 10 1 1;", 2, 8);
        Due.faulty("weights 1 10 1;", 2, 10);
        Due.faulty("weights 1 1 10;", 2, 12);
        Due.faulty("give 21;", 2, 5);
        Due.faulty("less 21;", 2, 5);
        Due.faulty("less 99999999999999999999999999999999;", 2, 5);
        Due.faulty("give 4294967297;", 2, 5);
    }

    private static void toldAlready() {
        Due.faulty("give 1;give 1;", 3, 7);
        Due.faulty("give 1; give", 3, 8);
        Due.faulty("less 1;give 1;less 2;", 3, 14);
        Due.faulty("weights 1 1 1;weights x", 3, 14);
        Due.faulty("odds 0 10 20 70;odds 1 10 20 70;odds 0 10 20 70;", 3, 37);
        Due.faulty("odds 3 10 20 70;odds 3 999 20 70;", 3, 21);
        Due.faultless("odds 0 10 20 70;odds 3 10 20 70;weights 1 1 1;give 1;less 1;odds 2 1 1 98;", 0);
    }

    private static void tooManyPegs() {
        Due.faulty("row 24 kind 0 walk 0;row 1 kind 0 walk 0;", 4, 25);
        Due.faulty("row 1 kind 0 walk 0;row 24 x", 4, 24);
        Due.faulty("row 12 kind 0 walk 0;row 13 kind 0 walk 0;", 4, 25);
    }

    private static void notHundred() {
        Due.faulty("odds 0 1 2 3;", 5, 11);
        Due.faulty("odds 1 50 50 1;", 5, 13);
        Due.faulty("odds 2 100 100 100", 5, 15);
        Due.faulty("odds 0 0 0 99;", 5, 11);
    }

    private static void leastOfLikePlaces() {
        Due.faulty("row 24 kind 0 walk 0;row 25 kind 0 walk 0;", 2, 25);
        Due.faulty("row 24 kind 0 walk 0;row x", 1, 25);
        Due.faulty("odds 0 100 1 101;", 2, 13);
        Due.faulty("odds 1 10 20 70;odds 1111", 2, 21);
        // Of two faults the one at the earlier byte, though its number is the greater.
        Due.faulty("odds 0 1 2 3 x", 5, 11);
        Due.faulty("give 1;give 21 x", 3, 7);
    }

    private static void hallAndState() {
        CoatsHall x = Due.withHall("row 2 kind 1 walk 5;odds 2 1 2 97;weights 3 4 5;give 6;less 7;");
        Due.is("3: a fault", Due.hallOf(x, "row 3 kind 0 walk 1;give 9;less 8;weights 1 1 1;odds 2 3 3 94;odd"), -11);
        Due.is("4: its place", x.fault(), 62);
        int[] due = {2, 0, 0, 0, 0, 0, 6, 7, 3, 4, 5};
        for (int what = 0; what <= 10; what++) Due.is("3: all is as it was, " + what, x.count(what), due[what]);
        Due.is("3: odds are as they were", x.odds(2, 0), 1);
        Due.is("3: pegs are as they were", x.peg(1, 1), 6);
        x.guest(0, 1, 0, 0);
        x.claim(0, 0, 0);
        x.night(0, 0, 9, 0, 0);
        x.tonight(0, 0);
        Due.is("3: anew", Due.hallOf(x, "row 1 kind 1 walk 8;"), 1);
        Due.is("4: NONE", x.fault(), NONE);
        int[] then = {1, 1, 0, 1, 1, 0, 2, 1, 1, 2, 5};
        for (int what = 0; what <= 10; what++) Due.is("3: anew, " + what, x.count(what), then[what]);
        Due.is("3: odds not told", x.odds(2, 0), 10);
        Due.is("3: the night stays", x.told(0, 8), 833 + 2 * 83 + 5 * 84);
        x.guest(0, 1, 0, 0);
        Due.is("3: an event", x.hang(0, 1, 0, 0), 0);
        Due.feed(x, "xx");
        Due.is("3: NOT", x.hall(), NOT);
        Due.is("3: the text stays", x.count(5), 2);
        Due.is("4: NOT is not counted", x.fault(), NONE);
        Due.is("3: pegs stay", x.count(0), 1);
        CoatsHall y = Due.withHall("row 2 kind 1 walk 5;");
        Due.is("3: an empty text is a hall", y.hall(), 0);
        Due.is("3: no pegs", y.count(0), 0);
        Due.is("4: fault, then NOT", Due.hallOf(y, " give 1 "), -11);
        Due.is("4: place", y.fault(), 8);
        Due.is("4: again", y.fault(), 8);
    }

    private static void pegs() {
        CoatsHall x = Due.withHall("row 2 kind 1 walk 5;row 3 kind 0 walk 99;row 1 kind 2 walk 0;");
        int[] kinds = {1, 1, 0, 0, 0, 2}, walks = {5, 6, 99, 100, 101, 0};
        for (int p = 0; p < 6; p++) {
            Due.is("5: kind of " + p, x.peg(p, 0), kinds[p]);
            Due.is("5: walk of " + p, x.peg(p, 1), walks[p]);
            Due.is("5: nothing on " + p, x.peg(p, 2), NONE);
            Due.is("5: what = 3", x.peg(p, 3), OUTSIDE);
        }
        Due.is("5: what = -1", x.peg(0, -1), OUTSIDE);
        Due.is("5: peg 6", x.peg(6, 0), UNKNOWN);
        Due.is("5: peg -1", x.peg(-1, 3), UNKNOWN);
        Due.is("5: peg most", x.peg(MOST, 0), UNKNOWN);
        x.guest(0, 0, 0, 0);
        x.guest(0, 0, 0, 0);
        x.hang(0, 1, 3, 3);
        Due.is("5: guest 1's hangs on 3", x.peg(3, 2), 1);
        Due.is("5: nothing on 2", x.peg(2, 2), NONE);
        x.give(0, 1, 3);
        Due.is("5: it is given", x.peg(3, 2), NONE);
    }

    private static void odds() {
        CoatsHall x = Due.withHall("odds 3 1 2 97;odds 1 50 0 50;");
        int[][] due = {{10, 20, 70}, {50, 0, 50}, {10, 20, 70}, {1, 2, 97}};
        for (int sort = 0; sort < 4; sort++) {
            for (int what = 0; what < 3; what++) Due.is("6: odds", x.odds(sort, what), due[sort][what]);
        }
        Due.is("6: sort 4", x.odds(4, 0), OUTSIDE);
        Due.is("6: sort -1", x.odds(-1, 0), OUTSIDE);
        Due.is("6: what 3", x.odds(0, 3), OUTSIDE);
        Due.is("6: what -1", x.odds(0, -1), OUTSIDE);
        Due.is("6: far out", x.odds(LEAST, MOST), OUTSIDE);
        x.tonight(0, 0);
        Due.is("6: told odds, on a night too", x.odds(3, 2), 97);
    }

    private static void counts() {
        CoatsHall x = Due.withHall("row 5 kind 0 walk 1;weights 7 8 9;give 11;less 12;");
        x.guest(0, 0, 0, 0);
        x.guest(0, 0, 0, 0);
        x.guest(0, 0, 0, 0);
        x.hang(0, 0, 0, 0);
        x.hang(0, 1, 1, 1);
        x.claim(2, 0, 0);
        x.night(0, 0, 0, 0, 0);
        x.feed(4, 0L);
        int[] due = {5, 3, 2, 1, 1, 4, 11, 12, 7, 8, 9};
        for (int what = 0; what <= 10; what++) Due.is("7: count(" + what + ")", x.count(what), due[what]);
        Due.is("7: 11", x.count(11), OUTSIDE);
        Due.is("7: -1", x.count(-1), OUTSIDE);
        Due.is("7: most", x.count(MOST), OUTSIDE);
        Due.is("7: least", x.count(LEAST), OUTSIDE);
    }

    private static void guests() {
        CoatsHall x = new CoatsHall();
        int[][] wrong = {{4, 0, 0, 0}, {-1, 0, 0, 0}, {0, 3, 0, 0}, {0, -1, 0, 0}, {0, 0, 100, 0}, {0, 0, -1, 0},
            {0, 0, 0, 256}, {0, 0, 0, -1}, {MOST, MOST, MOST, MOST}, {LEAST, LEAST, LEAST, LEAST}};
        for (int[] w : wrong) Due.is("8: OUTSIDE", x.guest(w[0], w[1], w[2], w[3]), OUTSIDE);
        Due.is("8: none came", x.count(1), 0);
        for (int g = 0; g < 16; g++) Due.is("8: guest " + g, x.guest(g % 4, g % 3, 99 - g, 255 - g), g);
        Due.is("8: FULL", x.guest(0, 0, 0, 0), FULL);
        for (int[] w : wrong) Due.is("8: OUTSIDE before FULL", x.guest(w[0], w[1], w[2], w[3]), OUTSIDE);
        Due.is("8: sixteen", x.count(1), 16);
        for (int g = 0; g < 16; g++) {
            Due.is("9: sort", x.told(g, 0), g % 4);
            Due.is("9: kind", x.told(g, 1), g % 3);
            Due.is("9: tip", x.told(g, 2), 99 - g);
            Due.is("9: marks", x.told(g, 3), 255 - g);
            for (int what = 4; what <= 7; what++) Due.is("9: nothing yet", x.told(g, what), NONE);
        }
    }

    private static void told() {
        CoatsHall x = Due.withHall("row 5 kind 0 walk 1;odds 1 60 30 10;weights 1 2 6;");
        for (int g = 0; g < 4; g++) x.guest(g % 2, 0, 5, 3);
        Due.is("9: expected", x.told(0, 8), 10 + 40 + 420);
        Due.is("9: expected", x.told(1, 8), 60 + 60 + 60);
        Due.is("9: what 9", x.told(0, 9), OUTSIDE);
        Due.is("9: what -1", x.told(0, -1), OUTSIDE);
        Due.is("9: guest 4", x.told(4, 0), UNKNOWN);
        Due.is("9: guest -1", x.told(-1, 9), UNKNOWN);
        Due.is("9: guest least", x.told(LEAST, 0), UNKNOWN);
        x.hang(0, 0, 4, 23);
        x.hang(0, 1, 2, 2);
        Due.is("9: brass", x.told(0, 4), 23);
        Due.is("9: peg", x.told(0, 5), 4);
        Due.is("9: who has", x.told(0, 6), NONE);
        x.give(0, 1, 4);
        Due.is("9: peg is free", x.told(0, 5), NONE);
        Due.is("9: 1 has it", x.told(0, 6), 1);
        Due.is("9: whose 1 has", x.told(1, 7), 0);
        Due.is("9: brass is back", x.told(1, 4), NONE);
        Due.is("9: own hangs still", x.told(1, 5), 2);
        Due.is("9: brass stays", x.told(0, 4), 23);
        x.lose(0);
        Due.is("9: lost", x.told(0, 4), NONE);
        x.claim(2, 0, 0);
        Due.is("9: granted", x.grant(0), 1);
        Due.is("9: 2 has it without brass", x.told(1, 6), 2);
        Due.is("9: whose 2 has", x.told(2, 7), 1);
        Due.is("9: it hangs no more", x.told(1, 5), NONE);
    }
}
