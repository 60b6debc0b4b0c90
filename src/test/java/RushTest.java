/** Promises 23 to 25: the rush, the best row, how many hands are wanted. */
public final class RushTest {
    private static final int NONE = -1, UNKNOWN = -1001, OUTSIDE = -1002, NOT = -1003;
    private static final int LEAST = Integer.MIN_VALUE, MOST = Integer.MAX_VALUE;

    public static void main(String[] args) {
        rush();
        rushOfMany();
        bestRow();
        bestOfLikeOnes();
        refusals();
        wanted();
        Due.end();
    }

    /** Guest g on peg g, with these tips. */
    private static CoatsHall hanging(String text, int... tips) {
        CoatsHall x = Due.withHall(text);
        for (int g = 0; g < tips.length; g++) {
            x.guest(0, 0, tips[g], 0);
            x.hang(0, g, g, g);
        }
        return x;
    }

    private static void rush(CoatsHall x, int set, int n, int sum, int greatest, int tips) {
        Due.is("23: sum of " + set + " with " + n, x.rush(set, n, 0), sum);
        Due.is("23: greatest of " + set + " with " + n, x.rush(set, n, 1), greatest);
        Due.is("23: tips of " + set + " with " + n, x.rush(set, n, 2), tips);
    }

    private static void row(CoatsHall x, int set, int n, int tips, int... guests) {
        Due.is("24: tips of " + set + " with " + n, x.bestRow(set, n, NONE), tips);
        for (int i = 0; i < guests.length; i++) Due.is("24: place " + i, x.bestRow(set, n, i), guests[i]);
        Due.is("24: behind the end", x.bestRow(set, n, guests.length), NONE);
        Due.is("24: far behind", x.bestRow(set, n, MOST), NONE);
        Due.is("24: below NONE", x.bestRow(set, n, -2), NONE);
        Due.is("24: far below", x.bestRow(set, n, LEAST), NONE);
    }

    private static void rush() {
        CoatsHall x = hanging("row 4 kind 0 walk 1;give 1;less 5;", 10, 10, 10, 20);
        // Ticks: 3, 5, 7, 9.
        rush(x, 0, 1, 0, 0, 0);
        rush(x, 0b0001, 1, 3, 3, 9);
        rush(x, 0b1111, 1, 3 + 8 + 15 + 24, 24, 9 + 6 + 3 + 8);
        rush(x, 0b1111, 2, 3 + 5 + 10 + 14, 14, 9 + 8 + 5 + 13);
        rush(x, 0b1111, 3, 3 + 5 + 7 + 12, 12, 9 + 8 + 7 + 14);
        rush(x, 0b1111, 4, 3 + 5 + 7 + 9, 9, 9 + 8 + 7 + 16);
        rush(x, 0b1010, 1, 5 + 14, 14, 8 + 13);
        // A tip never falls below 0; without loss it stays.
        rush(hanging("row 2 kind 0 walk 90;less 20;", 99, 0), 3, 1, 182 + 366, 366, 0);
        rush(hanging("row 2 kind 0 walk 90;less 0;", 99, 7), 3, 1, 182 + 366, 366, 106);
        // Nothing to walk, nothing to give: all have it at once.
        rush(hanging("row 1 kind 0 walk 0;row 1 kind 0 walk 0;give 0;", 5, 5), 3, 1, 0, 0, 10);
    }

    private static void rushOfMany() {
        CoatsHall x = hanging("row 16 kind 0 walk 99;give 20;less 0;", 1, 1, 1, 1, 1, 1, 1, 1, 1, 1, 1, 1, 1, 1, 1, 1);
        int sum = 0, time = 0;
        for (int g = 0; g < 16; g++) {
            time += 2 * (99 + g) + 20;
            sum += time;
        }
        rush(x, 0xffff, 1, sum, time, 16);
        Due.is("24: too many", x.bestRow(0xff, 1, NONE), NOT);
        Due.is("24: seven", x.bestRow(0x7f, 1, NONE), 7);
        Due.is("24: other seven", x.bestRow(0xfe00, 1, 0), 9);
    }

    private static void bestRow() {
        CoatsHall x = hanging("row 4 kind 0 walk 1;give 1;less 10;", 3, 8, 12, 30);
        row(x, 0, 1, 0);
        row(x, 0b0100, 2, 5, 2);
        // Ticks 3, 5, 7, 9: 3 alone brings more than all the rest, who then come by their ticks.
        row(x, 0b1111, 1, 21, 3, 0, 1, 2);
        // 0 comes too late with another: then only its wait counts.
        row(x, 0b0011, 1, 3, 1, 0);
        row(x, 0b1111, 4, 0 + 3 + 5 + 21, 0, 1, 2, 3);
        CoatsHall y = hanging("row 7 kind 0 walk 7;give 3;less 2;", 9, 18, 27, 36, 45, 54, 63);
        Model m = new Model();
        for (int i = 0; i < 33; i++) m.feed(1, "row 7 kind 0 walk 7;give 3;less 2;".charAt(i));
        m.feed(1, ';');
        m.hall();
        for (int g = 0; g < 7; g++) {
            m.guest(0, 0, 9 * g + 9, 0);
            m.hang(0, g, g, g);
        }
        for (int n = 1; n <= 4; n++) {
            for (int i = NONE; i <= 7; i++) Due.is("24: seven, with " + n, y.bestRow(127, n, i), m.bestRow(127, n, i));
        }
    }

    private static void bestOfLikeOnes() {
        // Like tips: the least sum of waits; like sums: the first row.
        row(hanging("row 3 kind 0 walk 0;row 1 kind 0 walk 0;less 0;", 5, 5, 5, 5), 0b1111, 1, 20, 0, 3, 1, 2);
        row(hanging("row 1 kind 0 walk 9;row 1 kind 0 walk 3;row 1 kind 0 walk 6;less 0;", 0, 50, 0), 0b111, 1, 50, 1, 2, 0);
        row(hanging("row 1 kind 0 walk 2;row 1 kind 0 walk 2;row 1 kind 0 walk 2;", 9, 9, 9), 0b111, 2, 9 + 9 + 8, 0, 1, 2);
        row(hanging("row 1 kind 0 walk 2;row 1 kind 0 walk 2;row 1 kind 0 walk 2;", 0, 0, 0), 0b101, 1, 0, 0, 2);
    }

    private static void refusals() {
        CoatsHall x = hanging("row 9 kind 0 walk 1;less 0;", 1, 1, 1, 1, 1, 1, 1, 1);
        x.guest(0, 0, 0, 0);
        x.give(0, 7, 6);
        int[] unknown = {1 << 8, 1 << 6, 1 << 9, 1 << 16, LEAST, -1, 1 << 30};
        for (int set : unknown) {
            Due.is("23: UNKNOWN", x.rush(set, 0, 9), UNKNOWN);
            Due.is("24: UNKNOWN", x.bestRow(set, 0, 0), UNKNOWN);
            Due.is("25: UNKNOWN", x.wanted(set, -1), UNKNOWN);
        }
        int[] outside = {0, 5, -1, MOST, LEAST};
        for (int n : outside) {
            Due.is("23: OUTSIDE", x.rush(3, n, 0), OUTSIDE);
            Due.is("24: OUTSIDE", x.bestRow(3, n, 0), OUTSIDE);
            Due.is("24: OUTSIDE", x.bestRow(3, n, NONE), OUTSIDE);
        }
        Due.is("23: what 3", x.rush(3, 1, 3), OUTSIDE);
        Due.is("23: what -1", x.rush(3, 1, -1), OUTSIDE);
        // 7 has 6's, and its own hangs still.
        Due.is("24: seven are not too many", x.bestRow(0xbf, 4, NONE), 7);
        CoatsHall y = hanging("row 9 kind 0 walk 1;", 1, 1, 1, 1, 1, 1, 1, 1);
        Due.is("24: eight", y.bestRow(0xff, 1, 0), NOT);
        Due.is("24: OUTSIDE before NOT", y.bestRow(0xff, 5, 0), OUTSIDE);
        Due.is("24: UNKNOWN before NOT", y.bestRow(0x1ff, 1, 0), UNKNOWN);
    }

    private static void wanted() {
        CoatsHall x = hanging("row 4 kind 0 walk 1;give 1;", 0, 0, 0, 0);
        // Greatest waits: 24, 14, 12, 9.
        int[][] due = {{9999, 1}, {24, 1}, {23, 2}, {14, 2}, {13, 3}, {12, 3}, {11, 4}, {9, 4}, {8, NONE}, {0, NONE}};
        for (int[] d : due) Due.is("25: wanted(15, " + d[0] + ")", x.wanted(15, d[0]), d[1]);
        Due.is("25: nobody", x.wanted(0, 0), 1);
        Due.is("25: w -1", x.wanted(15, -1), OUTSIDE);
        Due.is("25: w 10000", x.wanted(15, 10000), OUTSIDE);
        Due.is("25: far out", x.wanted(0, LEAST), OUTSIDE);
        Due.is("25: bit 4", x.wanted(31, 5), UNKNOWN);
    }
}
