/** Promises 26 to 32: claims, what they fit, ways, what is sure, what is given, what parts two, what to ask. */
public final class ClaimsTest {
    private static final int NONE = -1, UNKNOWN = -1001, OUTSIDE = -1002, NOT = -1003, FULL = -1004;
    private static final int LEAST = Integer.MIN_VALUE, MOST = Integer.MAX_VALUE;

    public static void main(String[] args) {
        claiming();
        fullClaims();
        fitting();
        ways();
        sure();
        granting();
        apart();
        asks();
        Due.end();
    }

    /** Guests of kind 0 with these marks, each thing on its own peg; then the first ones lose their brass. */
    private static CoatsHall lost(int losers, int... marks) {
        CoatsHall x = Due.withHall("row 16 kind 0 walk 0;row 8 kind 1 walk 0;");
        for (int g = 0; g < marks.length; g++) {
            x.guest(0, 0, 0, marks[g]);
            x.hang(0, g, g, g);
        }
        for (int g = 0; g < losers; g++) x.lose(g);
        return x;
    }

    private static void claiming() {
        CoatsHall x = lost(2, 1, 2, 4);
        Due.is("26: guest 3", x.claim(3, 0, 0), UNKNOWN);
        Due.is("26: guest -1", x.claim(-1, 256, 0), UNKNOWN);
        Due.is("26: yes 256", x.claim(0, 256, 0), OUTSIDE);
        Due.is("26: yes -1", x.claim(0, -1, 0), OUTSIDE);
        Due.is("26: no 256", x.claim(0, 0, 256), OUTSIDE);
        Due.is("26: no -1", x.claim(0, 0, -1), OUTSIDE);
        Due.is("26: both", x.claim(0, 3, 6), OUTSIDE);
        Due.is("26: far out", x.claim(0, LEAST, MOST), OUTSIDE);
        Due.is("26: OUTSIDE before NOT", x.claim(2, 1, 1), OUTSIDE);
        Due.is("26: has brass", x.claim(2, 1, 0), NOT);
        Due.is("26: none so far", x.count(3), 0);
        Due.is("26: first", x.claim(1, 170, 85), 0);
        Due.is("26: second", x.claim(0, 255, 0), 1);
        Due.is("26: has a claim", x.claim(1, 0, 0), NOT);
        x.guest(0, 0, 0, 0);
        Due.is("26: one that has hung nothing", x.claim(3, 0, 0), 2);
        x.give(0, 2, 2);
        Due.is("26: has something", x.claim(2, 0, 0), NOT);
        Due.is("26: three", x.count(3), 3);
    }

    private static void fullClaims() {
        CoatsHall x = lost(8, 0, 0, 0, 0, 0, 0, 0, 0, 0);
        for (int g = 0; g < 6; g++) Due.is("26: claim " + g, x.claim(g, 0, 0), g);
        Due.is("26: FULL", x.claim(6, 0, 0), FULL);
        Due.is("26: NOT before FULL", x.claim(8, 0, 0), NOT);
        Due.is("26: OUTSIDE before FULL", x.claim(6, 1, 1), OUTSIDE);
        Due.is("26: six", x.count(3), 6);
        Due.is("28: nine things, six claims", x.ways(), 9 * 8 * 7 * 6 * 5 * 4);
    }

    private static void fitting() {
        CoatsHall x = lost(3, 0b011, 0b001, 0b101, 0b111);
        x.guest(0, 1, 0, 0b001);
        x.hang(0, 4, 16, 16);
        x.guest(0, 0, 0, 0b001);
        x.claim(0, 0b001, 0);
        x.claim(1, 0b001, 0b010);
        x.claim(2, 0b101, 0b010);
        x.claim(5, 0, 0);
        Due.is("27: 1 is had", x.fits(0), 0b1111);
        Due.is("27: and 2 is not", x.fits(1), 0b0110);
        Due.is("27: both had", x.fits(2), 0b0100);
        Due.is("27: nothing told", x.fits(3), 0b1111);
        Due.is("27: claim 4", x.fits(4), UNKNOWN);
        Due.is("27: claim -1", x.fits(-1), UNKNOWN);
        Due.is("27: claim most", x.fits(MOST), UNKNOWN);
        x.give(0, 3, 1);
        Due.is("27: what hangs no more is out", x.fits(1), 0b0100);
        x.lose(4);
        Due.is("27: of its own kind", x.fits(x.claim(4, 0, 0)), 0b10000);
    }

    private static void ways() {
        CoatsHall x = lost(3, 1, 1, 2, 3);
        Due.is("28: without claims", x.ways(), 1);
        x.claim(0, 1, 0);
        Due.is("28: three things", x.ways(), 3);
        x.claim(1, 1, 2);
        Due.is("28: each once", x.ways(), 4);
        x.claim(2, 2, 1);
        Due.is("28: one more", x.ways(), 4);
        CoatsHall y = lost(2, 1, 2);
        y.claim(0, 1, 0);
        y.claim(1, 1, 0);
        Due.is("28: two want one", y.ways(), 0);
        CoatsHall z = lost(6, 0, 0, 0, 0, 0, 0, 0, 0, 0, 0, 0, 0, 0, 0, 0, 0);
        for (int g = 0; g < 6; g++) z.claim(g, 0, 0);
        Due.is("28: the most", z.ways(), 16L * 15 * 14 * 13 * 12 * 11);
    }

    private static void sure() {
        CoatsHall x = lost(3, 1, 1, 3, 4);
        Due.is("29: claim 0", x.sure(0), UNKNOWN);
        Due.is("29: claim -1", x.sure(-1), UNKNOWN);
        x.claim(0, 1, 0);
        Due.is("29: three it may be", x.sure(0), NONE);
        x.claim(1, 1, 2);
        x.claim(2, 2, 0);
        Due.is("29: fits one alone", x.sure(2), 2);
        Due.is("29: one of two", x.sure(0), NONE);
        Due.is("29: one of two", x.sure(1), NONE);
        Due.is("29: claim 3", x.sure(3), UNKNOWN);
        // Sure by the others alone: each fits two and more, and yet there is one for it.
        CoatsHall y = lost(3, 1, 1, 3);
        y.claim(2, 1, 0);
        y.claim(0, 1, 2);
        Due.is("29: not yet", y.sure(0), NONE);
        y.claim(1, 1, 2);
        Due.is("29: what the others leave", y.sure(0), 2);
        Due.is("28: in two ways", y.ways(), 2);
        Due.is("29: of two", y.sure(1), NONE);
        // No ways, nothing sure.
        CoatsHall z = lost(3, 1, 2, 2);
        z.claim(0, 1, 0);
        z.claim(1, 1, 0);
        z.claim(2, 4, 0);
        Due.is("29: no ways", z.sure(0), NONE);
        Due.is("29: no ways", z.sure(1), NONE);
        Due.is("29: fits nothing", z.sure(2), NONE);
    }

    private static void granting() {
        CoatsHall x = lost(4, 1, 1, 3, 4, 8);
        Due.is("30: claim 0", x.grant(0), UNKNOWN);
        x.claim(0, 1, 0);
        Due.is("30: claim 1", x.grant(1), UNKNOWN);
        Due.is("30: claim -1", x.grant(-1), UNKNOWN);
        Due.is("30: not sure", x.grant(0), NOT);
        x.claim(3, 3, 0);
        x.claim(1, 8, 0);
        x.claim(2, 4, 0);
        int events = x.count(2);
        Due.is("30: 2's to 3", x.grant(1), 2);
        Due.is("30: 3 has it", x.told(3, 7), 2);
        Due.is("30: it hangs no more", x.told(2, 5), NONE);
        Due.is("30: the peg is free", x.peg(2, 2), NONE);
        Due.is("30: no event", x.count(2), events);
        Due.is("30: three are left", x.count(3), 3);
        Due.is("30: later ones have one less", x.fits(1), 16);
        Due.is("30: later ones have one less", x.fits(2), 8);
        Due.is("30: the first stays", x.fits(0), 3);
        Due.is("30: no more than three", x.fits(3), UNKNOWN);
        Due.is("30: the last", x.grant(2), 3);
        Due.is("30: the last one's guest", x.told(2, 7), 3);
        Due.is("30: the first claim is unsure still", x.grant(0), NOT);
        Due.is("30: the second", x.grant(1), 4);
        Due.is("30: to guest 1", x.told(1, 7), 4);
        CoatsHall w = lost(4, 1, 1, 1, 2, 3);
        w.claim(3, 2, 1);
        w.claim(0, 1, 2);
        w.claim(1, 3, 0);
        w.claim(2, 0, 2);
        Due.is("30: the first of four", w.grant(0), 3);
        int[] fits = {0b00111, 0b10000, 0b00111};
        for (int c = 0; c < 3; c++) Due.is("30: what is told of each goes with it", w.fits(c), fits[c]);
        Due.is("30: one left", x.count(3), 1);
        Due.is("26: one who has something", x.claim(3, 0, 0), NOT);
        Due.is("18: astray", x.astray(), 0b1110);
        Due.is("21: a ring of 2 and 3, and an open chain", x.exchanges(), 1 + 1);
        CoatsHall y = lost(1, 1, 2);
        y.claim(0, 1, 0);
        Due.is("30: its own", y.grant(0), 0);
        Due.is("18: not astray", y.astray(), 0);
        Due.is("30: claims are gone", y.count(3), 0);
        Due.is("26: it has its own", y.claim(0, 0, 0), NOT);
    }

    private static void apart() {
        CoatsHall x = new CoatsHall();
        Due.is("31: nobody", x.apart(0, 0), UNKNOWN);
        x.guest(0, 0, 0, 0b10101010);
        x.guest(0, 1, 0, 0b11001100);
        Due.is("31: two", x.apart(0, 1), 0b01100110);
        Due.is("31: two", x.apart(1, 0), 0b01100110);
        Due.is("31: one twice", x.apart(1, 1), 0);
        Due.is("31: guest 2", x.apart(0, 2), UNKNOWN);
        Due.is("31: guest 2", x.apart(2, 0), UNKNOWN);
        Due.is("31: guest -1", x.apart(-1, 0), UNKNOWN);
        Due.is("31: far out", x.apart(0, MOST), UNKNOWN);
    }

    private static void asks() {
        CoatsHall x = lost(4, 0b0011, 0b0101, 0b0110, 0b0000, 0b1011);
        Due.is("32: claim 0", x.asks(0), UNKNOWN);
        Due.is("32: claim -1", x.asks(-1), UNKNOWN);
        x.claim(0, 0, 0);
        // From 0011: 0101 by 0110, 0110 by 0101, 0000 by 0011, 1011 by 1000 alone.
        Due.is("32: three marks", x.asks(0), 0b1011);
        x.claim(1, 0, 0);
        Due.is("32: of like ones the least", x.asks(1), 0b0011);
        x.claim(2, 6, 0);
        Due.is("32: nothing need be asked", x.asks(2), 0);
        x.claim(3, 1, 0);
        // Its own is not among those that fit: one that is like it in what is asked.
        Due.is("32: one alone, not its own", x.asks(3), 0b0010);
        CoatsHall y = lost(2, 7, 7, 3);
        y.claim(0, 0, 0);
        y.claim(1, 8, 0);
        Due.is("32: two alike", y.asks(0), NONE);
        Due.is("32: fits nothing", y.asks(1), NONE);
        CoatsHall w = lost(1, 0b0111, 0b0010, 0b0001, 0b0100);
        w.guest(0, 0, 0, 0b1000);
        w.claim(0, 0, 0);
        w.claim(4, 0, 0);
        Due.is("32: two of three", w.asks(0), 0b0011);
        // 4's own does not hang; neither 0 nor 1 is on it, and so on 3's alone.
        Due.is("32: another's", w.asks(1), 0b0011);
        CoatsHall v = lost(1, 0b0100, 0b0011, 0b0010, 0b0001);
        v.claim(0, 0, 0);
        Due.is("32: fewer marks, though the greater set", v.asks(0), 0b0100);
        CoatsHall z = lost(1, 255, 254, 253, 251, 247, 239, 223, 191, 127);
        z.claim(0, 0, 0);
        Due.is("32: all eight", z.asks(0), 255);
    }
}
