/** The Terms and promises 1 and 5 to 9, sentence by sentence: the first, the last, too many, none. */
public final class HallEdgesTest {
    private static final int NONE = -1, UNKNOWN = -1001, OUTSIDE = -1002, NOT = -1003, FULL = -1004;
    private static final int LEAST = Integer.MIN_VALUE, MOST = Integer.MAX_VALUE;

    public static void main(String[] args) {
        newObject();
        ownOfEachObject();
        usedFor512Calls();
        constants();
        numbersFrom0();
        cutsTowards0();
        setsOfBits();
        ofAPeg();
        whoseHangsThere();
        oddsOfASort();
        howMany();
        guestNumbers();
        guestBounds();
        sixteenGuests();
        ofAGuest();
        itsBrass();
        pegWhereItHangs();
        whoHasIt();
        whoseItHas();
        expected();
        Due.end();
    }

    private static CoatsHall withGuests(int guests) {
        CoatsHall x = Due.withHall("row 24 kind 0 walk 0;");
        for (int g = 0; g < guests; g++) x.guest(0, 0, 0, g);
        return x;
    }

    private static void newObject() {
        Due.says("1: No PEGS, no GUESTS; odds, weights as told");
        int[] due = {0, 0, 0, 0, 0, 0, 2, 1, 1, 2, 5};
        CoatsHall x = new CoatsHall();
        for (int what = 0; what <= 10; what++) Due.is("count(" + what + ")", x.count(what), due[what]);
        for (int sort = 0; sort < 4; sort++) {
            for (int what = 0; what < 3; what++) Due.is("odds", x.odds(sort, what), new int[] {10, 20, 70}[what]);
        }
        Due.is("peg", x.peg(0, 2), UNKNOWN);
        Due.is("told", x.told(0, 8), UNKNOWN);
        Due.is("event", x.event(0, 0), UNKNOWN);
        Due.is("fits", x.fits(0), UNKNOWN);
        Due.is("fault", x.fault(), NONE);
        Due.is("SUM of nobody", x.plan(false, NONE), 0);
        Due.is("SUM of nobody by HABIT", x.plan(true, NONE), 0);
        Due.is("astray", x.astray(), 0);
        Due.is("exchanges", x.exchanges(), 0);
        Due.is("ways", x.ways(), 1);
        Due.is("rush of nobody", x.rush(0, 1, 0), 0);
        Due.is("bestRow of nobody", x.bestRow(0, 4, NONE), 0);
        Due.is("bestRow of nobody has no first", x.bestRow(0, 4, 0), NONE);
        Due.is("wanted for nobody", x.wanted(0, 0), 1);
        Due.is("no IMAGE", x.goBack(0), NOT);
        Due.is("no IMAGE", x.goBack(1), NOT);
        x.guest(0, 0, 0, 0);
        Due.is("no NIGHT: EXPECTED by told odds", x.told(0, 8), 400);
        Due.is("no PEG for it", x.plan(false, 0), NONE);
        Due.is("no PEG to hang it on", x.hang(0, 0, 0, 0), UNKNOWN);
    }

    private static void ownOfEachObject() {
        Due.says("1: No PEGS, no GUESTS (of a second object, too)");
        CoatsHall x = Due.withHall("row 2 kind 0 walk 1;odds 0 1 1 98;weights 9 9 9;give 9;less 9;");
        x.guest(0, 0, 0, 0);
        x.hang(0, 0, 0, 0);
        x.night(0, 0, 9, 9, 9);
        x.tonight(0, 0);
        x.keep(0);
        x.feed(5, 0L);
        CoatsHall y = new CoatsHall();
        int[] due = {0, 0, 0, 0, 0, 0, 2, 1, 1, 2, 5};
        for (int what = 0; what <= 10; what++) Due.is("count(" + what + ")", y.count(what), due[what]);
        Due.is("odds", y.odds(0, 0), 10);
        Due.is("LEARNT", y.learnt(0, 0, 2), 334);
        Due.is("no IMAGE", y.goBack(0), NOT);
        Due.is("its GUESTS", y.guest(1, 1, 1, 1), 0);
        Due.is("no NIGHT", y.told(0, 8), 400);
        Due.is("the first one's stay", x.told(0, 0), 0);
        Due.is("and their number", x.count(1), 1);
    }

    private static void usedFor512Calls() {
        Due.says("An object is used for at most 512 calls after it has been made");
        CoatsHall x = new CoatsHall();
        for (int call = 1; call <= 240; call++) x.feed(1, ' ');
        for (int call = 241; call <= 300; call++) x.night(1, 1, 999, 999, 999);
        for (int call = 301; call <= 316; call++) x.guest(3, 2, 99, 255);
        for (int call = 317; call <= 506; call++) Due.is("call " + call, x.told(15, 3), 255);
        Due.is("call 507", x.night(1, 1, 0, 0, 0), FULL);
        Due.is("call 508", x.guest(0, 0, 0, 0), FULL);
        Due.is("call 509", x.feed(1, 0L), FULL);
        Due.is("call 510", x.learnt(1, 1, 2), 334);
        Due.is("call 511", x.hall(), 0);
        Due.is("call 512", x.feed(8, 0L), 8);
    }

    private static void constants() {
        Due.says("NONE is -1; UNKNOWN = -1001, OUTSIDE = -1002, NOT = -1003, FULL = -1004");
        Due.is("NONE", CoatsHall.NONE, NONE);
        Due.is("UNKNOWN", CoatsHall.UNKNOWN, UNKNOWN);
        Due.is("OUTSIDE", CoatsHall.OUTSIDE, OUTSIDE);
        Due.is("NOT", CoatsHall.NOT, NOT);
        Due.is("FULL", CoatsHall.FULL, FULL);
    }

    private static void numbersFrom0() {
        Due.says("What has a number has it from 0 on, as it comes");
        CoatsHall x = Due.withHall("row 1 kind 0 walk 9;row 1 kind 1 walk 3;");
        Due.is("the first PEG", x.peg(0, 1), 9);
        Due.is("the second", x.peg(1, 1), 3);
        Due.is("the first GUEST", x.guest(0, 0, 0, 0), 0);
        Due.is("the second", x.guest(0, 1, 0, 0), 1);
        Due.is("the third", x.guest(0, 0, 0, 0), 2);
        Due.is("the first CLAIM", x.claim(2, 0, 0), 0);
        Due.is("the first EVENT", x.hang(0, 0, 0, 0), 0);
        Due.is("the second", x.hang(0, 1, 1, 1), 1);
        Due.is("the third", x.lose(1), 2);
        Due.is("the second CLAIM", x.claim(1, 0, 0), 1);
    }

    private static void cutsTowards0() {
        Due.says("All numbers are whole; / cuts towards 0");
        CoatsHall x = new CoatsHall();
        x.night(0, 0, 1, 1, 0);
        Due.is("2000 / 5", x.learnt(0, 0, 0), 400);
        x.night(0, 0, 1, 0, 0);
        Due.is("3000 / 6", x.learnt(0, 0, 0), 500);
        x.night(0, 0, 0, 0, 1);
        Due.is("3000 / 7", x.learnt(0, 0, 0), 428);
        Due.is("2000 / 7", x.learnt(0, 0, 1), 285);
        x.night(0, 0, 0, 0, 999);
        x.night(0, 0, 0, 0, 999);
        Due.is("2000 / 2005", x.learnt(0, 0, 1), 0);
        CoatsHall y = Due.withHall("row 3 kind 0 walk 0;give 19;less 1;");
        y.guest(0, 0, 9, 0);
        y.hang(0, 0, 0, 0);
        Due.is("9 less 19 / 10", y.rush(1, 1, 2), 8);
    }

    private static void setsOfBits() {
        Due.says("A SET is a whole number, bit k for k");
        CoatsHall x = withGuests(16);
        for (int g = 0; g < 16; g++) x.hang(0, g, g, g);
        for (int g = 0; g < 16; g++) Due.is("GUEST " + g + " alone, last of its walk", x.rush(1 << g, 1, 1), 2 * g + 2);
        Due.is("all sixteen", x.wanted(0xffff, 9999), 1);
        Due.is("bit 16", x.wanted(0x10000, 9999), UNKNOWN);
        Due.is("bit 31", x.wanted(LEAST, 9999), UNKNOWN);
        x.give(0, 0, 15);
        x.give(0, 15, 0);
        Due.is("astray", x.astray(), 1 | 1 << 15);
    }

    // ---- pegs, odds, counts

    private static void ofAPeg() {
        Due.says("5: Of a PEG: what = 0 KIND, 1 walk, 2 whose THING hangs there (NONE). UNKNOWN, OUTSIDE");
        CoatsHall x = Due.withHall("row 22 kind 0 walk 2;row 1 kind 1 walk 0;row 1 kind 2 walk 99;");
        int[][] due = {{0, 0, 2, NONE}, {21, 0, 23, NONE}, {22, 1, 0, NONE}, {23, 2, 99, NONE}};
        for (int[] d : due) for (int what = 0; what <= 2; what++) Due.is("peg(" + d[0] + ", " + what + ")", x.peg(d[0], what), d[1 + what]);
        for (int p : new int[] {-1, 24, 25, MOST, LEAST}) Due.is("peg(" + p + ")", x.peg(p, 0), UNKNOWN);
        for (int what : new int[] {-1, 3, MOST, LEAST}) Due.is("what " + what, x.peg(23, what), OUTSIDE);
        CoatsHall y = Due.withHall("row 1 kind 0 walk 2;");
        Due.is("the only PEG", y.peg(0, 1), 2);
        Due.is("the second of one", y.peg(1, 1), UNKNOWN);
    }

    private static void whoseHangsThere() {
        Due.says("5: 2 whose THING hangs there (NONE)");
        CoatsHall x = withGuests(16);
        x.hang(0, 15, 23, 0);
        x.hang(0, 0, 0, 23);
        Due.is("the last GUEST's on the last PEG", x.peg(23, 2), 15);
        Due.is("the first GUEST's on the first", x.peg(0, 2), 0);
        Due.is("beside it", x.peg(22, 2), NONE);
        x.lose(15);
        Due.is("its BRASS is lost: it hangs", x.peg(23, 2), 15);
        x.give(0, 0, 23);
        Due.is("given", x.peg(23, 2), NONE);
        x.hang(0, 7, 23, 1);
        Due.is("another's then", x.peg(23, 2), 7);
    }

    private static void oddsOfASort() {
        Due.says("6: Odds of a SORT (0 .. 3): what = 0 A, 1 B, 2 C. OUTSIDE");
        CoatsHall x = Due.withHall("odds 3 2 3 95;odds 0 4 5 91;");
        int[][] due = {{4, 5, 91}, {10, 20, 70}, {10, 20, 70}, {2, 3, 95}};
        for (int sort = 0; sort < 4; sort++) for (int what = 0; what < 3; what++) Due.is("odds", x.odds(sort, what), due[sort][what]);
        for (int bad : new int[] {-1, 4, MOST, LEAST}) Due.is("SORT " + bad, x.odds(bad, 0), OUTSIDE);
        for (int bad : new int[] {-1, 3, MOST, LEAST}) Due.is("what " + bad, x.odds(3, bad), OUTSIDE);
    }

    private static void howMany() {
        Due.says("7: How many: 0 PEGS, .. 10 Z. OUTSIDE");
        CoatsHall x = Due.withHall("row 24 kind 0 walk 0;weights 9 8 7;give 20;less 19;");
        for (int g = 0; g < 16; g++) x.guest(0, 0, 0, 0);
        for (int g = 0; g < 6; g++) x.claim(g, 0, 0);
        for (int g = 6; g < 16; g++) x.hang(0, g, g, g);
        for (int n = 0; n < 60; n++) x.night(0, 0, 0, 0, 0);
        Due.feed(x, " ".repeat(240));
        int[] due = {24, 16, 10, 6, 60, 240, 20, 19, 9, 8, 7};
        for (int what = 0; what <= 10; what++) Due.is("count(" + what + ")", x.count(what), due[what]);
        for (int bad : new int[] {-1, 11, MOST, LEAST}) Due.is("count(" + bad + ")", x.count(bad), OUTSIDE);
    }

    // ---- guests

    private static void guestNumbers() {
        Due.says("8: A GUEST: its number");
        CoatsHall x = new CoatsHall();
        for (int g = 0; g < 16; g++) {
            Due.is("GUEST " + g, x.guest(0, 0, 0, 0), g);
            Due.is("how many", x.count(1), g + 1);
        }
    }

    private static void guestBounds() {
        Due.says("8: OUTSIDE (SORT 0 .. 3, KIND 0 .. 2, TIP, MARKS 0 .. 255)");
        int[] most = {3, 2, 99, 255};
        for (int k = 0; k < 4; k++) {
            for (int value : new int[] {-1, most[k] + 1, LEAST, MOST}) {
                int[] a = {0, 0, 0, 0};
                a[k] = value;
                CoatsHall x = new CoatsHall();
                Due.is("argument " + k + " is " + value, x.guest(a[0], a[1], a[2], a[3]), OUTSIDE);
                Due.is("nobody came", x.count(1), 0);
            }
            for (int value : new int[] {0, 1, most[k] - 1, most[k]}) {
                int[] a = {0, 0, 0, 0};
                a[k] = value;
                CoatsHall x = new CoatsHall();
                Due.is("argument " + k + " is " + value, x.guest(a[0], a[1], a[2], a[3]), 0);
                Due.is("told", x.told(0, k), value);
            }
        }
    }

    private static void sixteenGuests() {
        Due.says("part 1: GUESTS (16 at most); 8: FULL");
        CoatsHall x = withGuests(15);
        x.keep(0);
        Due.is("the sixteenth", x.guest(0, 0, 0, 0), 15);
        Due.is("the seventeenth", x.guest(0, 0, 0, 0), FULL);
        Due.is("again", x.guest(3, 2, 99, 255), FULL);
        Due.is("sixteen", x.count(1), 16);
        Due.is("no such GUEST", x.told(16, 0), UNKNOWN);
        x.goBack(0);
        Due.is("fifteen again: there is room", x.guest(1, 1, 1, 1), 15);
        Due.is("for one", x.guest(1, 1, 1, 1), FULL);
    }

    private static void ofAGuest() {
        Due.says("9: Of a GUEST: what = 0 SORT, .. 8 EXPECTED. UNKNOWN, OUTSIDE");
        CoatsHall x = new CoatsHall();
        Due.is("nobody yet", x.told(0, 0), UNKNOWN);
        x.guest(3, 2, 99, 255);
        int[] due = {3, 2, 99, 255, NONE, NONE, NONE, NONE, 400};
        for (int what = 0; what <= 8; what++) Due.is("told(0, " + what + ")", x.told(0, what), due[what]);
        for (int g : new int[] {1, -1, 15, 16, MOST, LEAST}) Due.is("told(" + g + ")", x.told(g, 0), UNKNOWN);
        for (int what : new int[] {-1, 9, MOST, LEAST}) Due.is("what " + what, x.told(0, what), OUTSIDE);
    }

    private static void itsBrass() {
        Due.says("9: 4 its BRASS (NONE)");
        CoatsHall x = withGuests(3);
        Due.is("none yet", x.told(0, 4), NONE);
        x.hang(0, 0, 5, 0);
        x.hang(0, 1, 6, 23);
        Due.is("the least", x.told(0, 4), 0);
        Due.is("the greatest", x.told(1, 4), 23);
        x.give(0, 0, 6);
        Due.is("back then", x.told(0, 4), NONE);
        Due.is("the OWNER's stays with it", x.told(1, 4), 23);
        x.lose(1);
        Due.is("lost", x.told(1, 4), NONE);
    }

    private static void pegWhereItHangs() {
        Due.says("9: 5 the PEG where its THING hangs (NONE)");
        CoatsHall x = withGuests(3);
        Due.is("not hung", x.told(0, 5), NONE);
        x.hang(0, 0, 0, 7);
        x.hang(0, 1, 23, 8);
        Due.is("the first", x.told(0, 5), 0);
        Due.is("the last", x.told(1, 5), 23);
        x.give(0, 0, 23);
        Due.is("1's is given", x.told(1, 5), NONE);
        Due.is("0's hangs still", x.told(0, 5), 0);
        x.lose(1);
        Due.is("claim", x.claim(1, 0, 0), 0);
        Due.is("granted", x.grant(0), 0);
        Due.is("it hangs no more", x.told(0, 5), NONE);
    }

    private static void whoHasIt() {
        Due.says("9: 6 who HAS its THING (NONE: nobody, or it was not hung)");
        CoatsHall x = withGuests(16);
        Due.is("not hung", x.told(3, 6), NONE);
        x.hang(0, 0, 0, 0);
        x.hang(0, 3, 3, 3);
        x.hang(0, 15, 15, 15);
        Due.is("it hangs", x.told(3, 6), NONE);
        x.give(0, 0, 3);
        Due.is("the first GUEST", x.told(3, 6), 0);
        x.give(0, 15, 0);
        Due.is("the last GUEST", x.told(0, 6), 15);
        x.give(0, 3, 15);
        Due.is("another", x.told(15, 6), 3);
        Due.is("of one that has hung nothing", x.told(1, 6), NONE);
        CoatsHall y = withGuests(1);
        y.hang(0, 0, 0, 0);
        y.give(0, 0, 0);
        Due.is("itself", y.told(0, 6), 0);
    }

    private static void whoseItHas() {
        Due.says("9: 7 whose THING it HAS (NONE)");
        CoatsHall x = withGuests(16);
        x.hang(0, 0, 0, 0);
        x.hang(0, 15, 15, 15);
        Due.is("nothing yet", x.told(0, 7), NONE);
        x.give(0, 0, 15);
        Due.is("the last one's", x.told(0, 7), 15);
        x.give(0, 15, 0);
        Due.is("the first one's", x.told(15, 7), 0);
        Due.is("who has hung nothing has nothing", x.told(1, 7), NONE);
        x.claim(1, 0, 0);
        Due.is("a claim alone gives nothing", x.told(1, 7), NONE);
    }

    private static void expected() {
        Due.says("part 2: EXPECTED of a GUEST: A times X, B times Y, C times Z of its SORT, together");
        CoatsHall x = Due.withHall("odds 0 100 0 0;odds 1 0 100 0;odds 2 0 0 100;odds 3 34 33 33;weights 9 8 7;");
        int[] due = {900, 800, 700, 34 * 9 + 33 * 8 + 33 * 7};
        for (int sort = 0; sort < 4; sort++) {
            x.guest(sort, 0, 0, 0);
            Due.is("EXPECTED of SORT " + sort, x.told(sort, 8), due[sort]);
        }
        Due.hallOf(x, "weights 0 0 0;odds 0 100 0 0;");
        for (int g = 0; g < 4; g++) Due.is("weights 0", x.told(g, 8), 0);
        Due.hallOf(x, "weights 9 9 9;");
        for (int g = 0; g < 4; g++) Due.is("weights 9", x.told(g, 8), 900);
        Due.hallOf(x, "weights 9 0 0;");
        for (int g = 0; g < 4; g++) Due.is("odds not told", x.told(g, 8), 90);
    }
}
