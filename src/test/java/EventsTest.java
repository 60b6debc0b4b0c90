/** Promises 14 to 22: hanging, giving, losing, who is astray, chains, exchanges, the first wrong hand. */
public final class EventsTest {
    private static final int NONE = -1, UNKNOWN = -1001, OUTSIDE = -1002, NOT = -1003;
    private static final int LEAST = Integer.MIN_VALUE, MOST = Integer.MAX_VALUE;

    public static void main(String[] args) {
        hanging();
        giving();
        losing();
        mostEvents();
        events();
        chains();
        longRing();
        severalChains();
        firstWrong();
        grantedThings();
        Due.end();
    }

    private static CoatsHall hallWithGuests(int guests) {
        CoatsHall x = Due.withHall("row 20 kind 0 walk 1;row 2 kind 1 walk 1;");
        for (int g = 0; g < guests; g++) x.guest(0, 0, 0, g);
        return x;
    }

    private static void hanging() {
        CoatsHall x = hallWithGuests(5);
        x.guest(0, 1, 0, 0);
        Due.is("14: hand 4", x.hang(4, 0, 0, 0), UNKNOWN);
        Due.is("14: hand -1", x.hang(-1, 0, 0, 0), UNKNOWN);
        Due.is("14: guest 6", x.hang(0, 6, 0, 0), UNKNOWN);
        Due.is("14: guest -1", x.hang(0, -1, 0, 0), UNKNOWN);
        Due.is("14: peg 22", x.hang(0, 0, 22, 0), UNKNOWN);
        Due.is("14: peg -1", x.hang(0, 0, -1, 24), UNKNOWN);
        Due.is("14: far out", x.hang(MOST, LEAST, MOST, LEAST), UNKNOWN);
        Due.is("14: brass 24", x.hang(0, 0, 0, 24), OUTSIDE);
        Due.is("14: brass -1", x.hang(0, 0, 0, -1), OUTSIDE);
        Due.is("14: OUTSIDE before NOT", x.hang(0, 0, 20, 24), OUTSIDE);
        Due.is("14: another kind", x.hang(0, 0, 20, 0), NOT);
        Due.is("14: another kind", x.hang(0, 5, 0, 0), NOT);
        Due.is("14: nothing happened", x.count(2), 0);
        Due.is("14: hangs", x.hang(3, 0, 19, 23), 0);
        Due.is("14: brass", x.told(0, 4), 23);
        Due.is("14: peg", x.told(0, 5), 19);
        Due.is("14: hung already", x.hang(0, 0, 1, 1), NOT);
        Due.is("14: peg not free", x.hang(0, 1, 19, 1), NOT);
        Due.is("14: brass is 0's", x.hang(0, 1, 1, 23), NOT);
        Due.is("14: nothing changed", x.told(1, 5), NONE);
        Due.is("14: kind 1", x.hang(0, 5, 20, 20), 1);
        x.claim(2, 0, 0);
        Due.is("14: has a claim", x.hang(0, 2, 2, 2), NOT);
        Due.is("14: given", x.give(0, 0, 19), 2);
        Due.is("14: hung once for all", x.hang(0, 0, 1, 1), NOT);
        Due.is("14: peg and brass are free again", x.hang(0, 1, 19, 23), 3);
        x.lose(1);
        Due.is("14: lost brass is free again", x.hang(0, 3, 4, 23), 5);
    }

    private static void giving() {
        CoatsHall x = hallWithGuests(4);
        x.hang(0, 0, 0, 0);
        x.hang(0, 1, 1, 1);
        Due.is("15: hand 4", x.give(4, 0, 0), UNKNOWN);
        Due.is("15: hand -1", x.give(-1, 0, 0), UNKNOWN);
        Due.is("15: guest 4", x.give(0, 4, 0), UNKNOWN);
        Due.is("15: guest -1", x.give(0, -1, 0), UNKNOWN);
        Due.is("15: peg 22", x.give(0, 0, 22), UNKNOWN);
        Due.is("15: peg -1", x.give(0, 0, -1), UNKNOWN);
        Due.is("15: no brass", x.give(0, 2, 0), NOT);
        Due.is("15: nothing hangs there", x.give(0, 0, 2), NOT);
        Due.is("15: nothing happened", x.count(2), 2);
        Due.is("15: 1's to 0", x.give(1, 0, 1), 2);
        Due.is("15: 0 has 1's", x.told(0, 7), 1);
        Due.is("15: 0's brass is back", x.told(0, 4), NONE);
        Due.is("15: peg 1 is free", x.peg(1, 2), NONE);
        Due.is("15: 0's hangs still", x.peg(0, 2), 0);
        Due.is("15: once", x.give(1, 0, 0), NOT);
        // One who has something by a claim, and brass by a hanging thereafter.
        CoatsHall y = hallWithGuests(3);
        y.hang(0, 0, 0, 0);
        y.claim(1, 0, 0);
        Due.is("15: granted", y.grant(0), 0);
        Due.is("15: hangs its own", y.hang(0, 1, 1, 1), 1);
        Due.is("15: has something", y.give(0, 1, 1), NOT);
        Due.is("15: 0's peg is free", y.give(0, 0, 0), NOT);
        Due.is("15: 1's to 0", y.give(0, 0, 1), 2);
    }

    private static void losing() {
        CoatsHall x = hallWithGuests(2);
        Due.is("16: guest 2", x.lose(2), UNKNOWN);
        Due.is("16: guest -1", x.lose(-1), UNKNOWN);
        Due.is("16: guest most", x.lose(MOST), UNKNOWN);
        Due.is("16: no brass", x.lose(0), NOT);
        x.hang(0, 0, 3, 9);
        Due.is("16: lost", x.lose(0), 1);
        Due.is("16: twice", x.lose(0), NOT);
        Due.is("16: no giving without", x.give(0, 0, 3), NOT);
        Due.is("16: hangs still", x.told(0, 5), 3);
        int[] due = {2, NONE, 0, NONE, 9, NONE, 0};
        for (int what = 0; what < 7; what++) Due.is("16: event(1, " + what + ")", x.event(1, what), due[what]);
    }

    /** Sixteen guests hang once and give or lose once: so many events, and never FULL. */
    private static void mostEvents() {
        CoatsHall x = hallWithGuests(16);
        int e = 0;
        for (int g = 0; g < 16; g++) Due.is("14: event " + e, x.hang(0, g, g, g), e++);
        for (int g = 0; g < 16; g++) Due.is("15: event " + e, x.give(0, g, g), e++);
        Due.is("14: 32 events", x.count(2), 32);
        Due.is("17: event 31", x.event(31, 2), 15);
        Due.is("17: event 32", x.event(32, 2), UNKNOWN);
    }

    private static void events() {
        CoatsHall x = hallWithGuests(4);
        x.hang(3, 0, 2, 5);
        x.hang(1, 1, 4, 4);
        x.give(2, 1, 2);
        x.lose(0);
        int[][] due = {{0, 3, 0, 2, 5, 0, 1}, {0, 1, 1, 4, 4, 1, 0}, {1, 2, 1, 2, 4, 0, 1}, {2, NONE, 0, NONE, 5, NONE, 0}};
        for (int e = 0; e < 4; e++) {
            for (int what = 0; what < 7; what++) Due.is("17: event(" + e + ", " + what + ")", x.event(e, what), due[e][what]);
            Due.is("17: what 7", x.event(e, 7), OUTSIDE);
            Due.is("17: what -1", x.event(e, -1), OUTSIDE);
        }
        Due.is("17: event 4", x.event(4, 0), UNKNOWN);
        Due.is("17: event -1", x.event(-1, 9), UNKNOWN);
        Due.is("17: far out", x.event(MOST, 0), UNKNOWN);
        Due.is("17: far out", x.event(LEAST, 0), UNKNOWN);
        // A right giving of another's thing: the brass is the peg's.
        CoatsHall y = hallWithGuests(2);
        y.hang(0, 0, 0, 1);
        y.hang(0, 1, 1, 0);
        y.give(0, 0, 1);
        Due.is("17: right", y.event(2, 6), 0);
        Due.is("18: and yet astray", y.astray(), 1);
    }

    private static void chain(CoatsHall x, int ring, int... members) {
        int g = members[0];
        Due.is("19: how many from " + g, x.chain(g, NONE), members.length);
        for (int i = 0; i < members.length; i++) Due.is("19: chain(" + g + ", " + i + ")", x.chain(g, i), members[i]);
        Due.is("19: behind the end", x.chain(g, members.length), NONE);
        Due.is("19: far behind the end", x.chain(g, MOST), NONE);
        Due.is("19: below NONE", x.chain(g, -2), NONE);
        Due.is("19: far below NONE", x.chain(g, LEAST), NONE);
        Due.is("20: ring(" + g + ")", x.ring(g), ring);
    }

    private static void chains() {
        CoatsHall x = hallWithGuests(5);
        for (int g = 0; g < 5; g++) x.hang(0, g, g, g);
        Due.is("18: nobody", x.astray(), 0);
        Due.is("19: not astray", x.chain(0, 0), NOT);
        Due.is("20: not astray", x.ring(0), NOT);
        Due.is("19: guest 5", x.chain(5, 0), UNKNOWN);
        Due.is("19: guest -1", x.chain(-1, 0), UNKNOWN);
        Due.is("20: guest 5", x.ring(5), UNKNOWN);
        Due.is("20: guest -1", x.ring(-1), UNKNOWN);
        x.give(0, 4, 4);
        Due.is("18: one with its own is not astray", x.astray(), 0);
        Due.is("19: nor is it in a chain", x.chain(4, NONE), NOT);
        x.give(0, 3, 1);
        Due.is("18: astray", x.astray(), 8);
        chain(x, 0, 3, 1);
        Due.is("21: one", x.exchanges(), 1);
        x.give(0, 1, 0);
        Due.is("18: astray", x.astray(), 10);
        chain(x, 0, 3, 1, 0);
        chain(x, 0, 1, 0);
        Due.is("21: two, of the longest alone", x.exchanges(), 2);
        Due.is("19: the last one is not astray", x.chain(0, NONE), NOT);
        x.give(0, 0, 3);
        Due.is("18: astray", x.astray(), 11);
        chain(x, 1, 3, 1, 0);
        chain(x, 1, 1, 0, 3);
        chain(x, 1, 0, 3, 1);
        Due.is("21: a ring of three", x.exchanges(), 2);
    }

    private static void longRing() {
        CoatsHall x = hallWithGuests(16);
        for (int g = 0; g < 16; g++) x.hang(0, g, g, g);
        for (int g = 0; g < 15; g++) x.give(0, g, (g + 7) % 16);
        Due.is("18: fifteen", x.astray(), 0x7fff);
        Due.is("21: an open chain of fifteen", x.exchanges(), 15);
        Due.is("20: open", x.ring(6), 0);
        Due.is("19: all are in it", x.chain(6, NONE), 16);
        x.give(0, 15, 6);
        Due.is("18: all", x.astray(), 0xffff);
        Due.is("21: a ring of sixteen", x.exchanges(), 15);
        for (int g = 0; g < 16; g++) {
            Due.is("20: round", x.ring(g), 1);
            Due.is("19: sixteen", x.chain(g, NONE), 16);
            Due.is("19: the last", x.chain(g, 15), (g + 9) % 16);
            Due.is("19: each once", x.chain(g, 16), NONE);
        }
    }

    private static void severalChains() {
        CoatsHall x = hallWithGuests(12);
        for (int g = 0; g < 12; g++) x.hang(0, g, g, g);
        int[] takes = {1, 0, 3, 4, 2, 6, 7, NONE, 9, NONE, NONE, 11};
        for (int g = 0; g < 12; g++) if (takes[g] != NONE) x.give(0, g, takes[g]);
        // Rings of two and three, open chains with two and one astray, one with its own.
        Due.is("21: together", x.exchanges(), 1 + 2 + 2 + 1);
        Due.is("18: astray", x.astray(), 0b000101111111);
        chain(x, 1, 4, 2, 3);
        chain(x, 0, 5, 6, 7);
        chain(x, 0, 8, 9);
    }

    private static void firstWrong() {
        CoatsHall x = hallWithGuests(8);
        Due.is("22: guest 8", x.wrong(8, 0), UNKNOWN);
        Due.is("22: guest -1", x.wrong(-1, 5), UNKNOWN);
        Due.is("22: what 2", x.wrong(0, 2), OUTSIDE);
        Due.is("22: what -1", x.wrong(0, -1), OUTSIDE);
        wrong(x, 0, NONE, NONE);
        x.hang(0, 0, 0, 0);
        x.hang(1, 1, 1, 2);
        x.hang(2, 2, 2, 1);
        x.hang(3, 3, 3, 3);
        x.hang(0, 4, 4, 5);
        wrong(x, 0, NONE, NONE);
        wrong(x, 1, 1, 1);
        wrong(x, 4, 0, 4);
        x.give(3, 0, 3);
        wrong(x, 3, 3, 5);
        wrong(x, 0, NONE, NONE);
        x.hang(2, 5, 5, 7);
        x.hang(1, 6, 7, 17);
        x.hang(1, 7, 8, 8);
        // 6's brass is 17: peg 7 is wrong, though its own thing hangs there.
        x.give(2, 6, 7);
        wrong(x, 6, 1, 7);
        // 4 has brass 5 by a wrong hanging: with it 5's thing, wrongly hung itself.
        x.give(3, 4, 5);
        wrong(x, 5, 2, 6);
        x.lose(7);
        wrong(x, 7, NONE, NONE);
        // 0's thing was hung rightly, and given wrongly to 3, whose brass is 3.
        x.give(2, 3, 0);
        wrong(x, 0, 2, 12);
        // Both right: 1 has brass 2, and on peg 2 hangs 2's, hung wrongly.
        x.give(0, 1, 2);
        wrong(x, 2, 2, 2);
        CoatsHall y = hallWithGuests(4);
        y.hang(0, 0, 0, 0);
        y.lose(0);
        y.hang(3, 1, 1, 0);
        y.give(2, 1, 0);
        // The thing was hung and given rightly; the one who has it came with the wrong brass.
        wrong(y, 0, 3, 2);
        wrong(y, 1, 3, 2);
        y.hang(1, 2, 2, 2);
        y.give(1, 2, 2);
        wrong(y, 2, NONE, NONE);
    }

    private static void wrong(CoatsHall x, int g, int hand, int event) {
        Due.is("22: hand for " + g, x.wrong(g, 0), hand);
        Due.is("22: event for " + g, x.wrong(g, 1), event);
    }

    /** What is granted is no giving: only its hanging can be wrong. */
    private static void grantedThings() {
        CoatsHall x = hallWithGuests(4);
        x.hang(0, 0, 0, 0);
        x.hang(1, 1, 1, 5);
        x.lose(1);
        x.claim(1, 1, 0);
        Due.is("22: granted, its own", x.grant(0), 1);
        wrong(x, 1, 1, 1);
        CoatsHall y = hallWithGuests(3);
        y.hang(2, 0, 0, 3);
        y.hang(0, 1, 1, 1);
        y.lose(0);
        y.claim(0, 1, 0);
        Due.is("22: 1's granted to 0", y.grant(0), 1);
        Due.is("18: who is astray", y.astray(), 1);
        chain(y, 0, 0, 1);
        wrong(y, 1, NONE, NONE);
        wrong(y, 0, 2, 0);
    }
}
