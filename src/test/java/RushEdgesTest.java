/** Part 4 and promises 23 to 25, sentence by sentence. */
public final class RushEdgesTest {
    private static final int NONE = -1, UNKNOWN = -1001, OUTSIDE = -1002, NOT = -1003;
    private static final int LEAST = Integer.MIN_VALUE, MOST = Integer.MAX_VALUE;

    public static void main(String[] args) {
        ticksOfEach();
        asSoonAsFree();
        tipsThatCome();
        tipsCutAndNeverBelow0();
        sumGreatestTips();
        emptySet();
        thingsThatHang();
        rushOutside();
        mostTips();
        leastWaits();
        firstRow();
        sevenAtMost();
        guestsOfTheRow();
        bestRowRefused();
        leastHands();
        wantedNone();
        wantedRefused();
        Due.end();
    }

    /** Guest g on peg g, with these tips. */
    private static CoatsHall hanging(String text, int... tips) {
        CoatsHall x = Due.withHall(text);
        for (int g = 0; g < tips.length; g++) {
            x.guest(0, 0, tips[g], 0);
            x.hang(0, g, g, g);
        }
        return x;
    }

    private static CoatsHall sixteen(String text) {
        return hanging("row 16 kind 0 " + text, new int[16]);
    }

    private static void rush(CoatsHall x, int set, int n, int sum, int greatest, int tips) {
        Due.is("sum of " + set + " with " + n, x.rush(set, n, 0), sum);
        Due.is("greatest of " + set + " with " + n, x.rush(set, n, 1), greatest);
        Due.is("TIPS of " + set + " with " + n, x.rush(set, n, 2), tips);
    }

    private static void row(CoatsHall x, int set, int n, int tips, int... guests) {
        Due.is("TIPS of " + set + " with " + n, x.bestRow(set, n, NONE), tips);
        for (int i = 0; i < guests.length; i++) Due.is("GUEST " + i + " of " + set + " with " + n, x.bestRow(set, n, i), guests[i]);
        Due.is("behind the last", x.bestRow(set, n, guests.length), NONE);
    }

    // ---- the rush

    private static void ticksOfEach() {
        Due.says("part 4: each needs two times its PEG's walk and G ticks");
        rush(hanging("row 1 kind 0 walk 0;give 0;", 0), 1, 1, 0, 0, 0);
        rush(hanging("row 1 kind 0 walk 0;give 20;", 0), 1, 1, 20, 20, 0);
        rush(hanging("row 1 kind 0 walk 99;give 0;", 0), 1, 1, 198, 198, 0);
        rush(hanging("row 1 kind 0 walk 99;give 20;", 0), 1, 1, 218, 218, 0);
        rush(hanging("row 1 kind 0 walk 1;", 0), 1, 1, 4, 4, 0);
        // The PEG on which it hangs counts, not the GUEST's BRASS nor its number.
        CoatsHall x = Due.withHall("row 24 kind 0 walk 99;give 0;");
        x.guest(0, 0, 0, 0);
        x.hang(0, 0, 23, 1);
        rush(x, 1, 4, 244, 244, 0);
    }

    private static void asSoonAsFree() {
        Due.says("part 4: in a row of GUESTS each HAND, as soon as it is free (of like ones the least), takes the next one");
        CoatsHall x = hanging("row 1 kind 0 walk 9;row 1 kind 0 walk 2;row 1 kind 0 walk 3;row 1 kind 0 walk 4;row 1 kind 0 walk 1;give 0;", 0, 0, 0, 0, 0);
        // Ticks 18 4 6 8 2.
        rush(x, 31, 1, 18 + 22 + 28 + 36 + 38, 38, 0);
        rush(x, 31, 2, 18 + 4 + 10 + 18 + 20, 20, 0);
        rush(x, 31, 3, 18 + 4 + 6 + 12 + 8, 18, 0);
        rush(x, 31, 4, 18 + 4 + 6 + 8 + 6, 18, 0);
        // More HANDS than GUESTS: the others have nothing to do.
        rush(x, 3, 4, 22, 18, 0);
        CoatsHall y = sixteen("walk 99;give 20;");
        int time = 0, sum = 0;
        for (int g = 0; g < 16; g++) {
            time += 2 * (99 + g) + 20;
            sum += time;
        }
        rush(y, 0xffff, 1, sum, time, 0);
    }

    private static void tipsThatCome() {
        Due.says("part 4: TIP that comes: its TIP less L times its WAIT / 10");
        // WAIT 19: L times WAIT first, then / 10.
        for (int less = 0; less <= 20; less++) {
            Due.is("less " + less, hanging("row 1 kind 0 walk 0;give 19;less " + less + ";", 99).rush(1, 1, 2), 99 - less * 19 / 10);
        }
        // Each WAIT counts from the start of THE RUSH.
        rush(hanging("row 3 kind 0 walk 0;give 10;less 3;", 20, 20, 20), 7, 1, 10 + 22 + 36, 36, 17 + 14 + 10);
    }

    private static void tipsCutAndNeverBelow0() {
        Due.says("part 4: (cut; 0 at least)");
        Due.is("9 / 10 is 0", hanging("row 1 kind 0 walk 0;give 9;", 5).rush(1, 1, 2), 5);
        Due.is("10 / 10 is 1", hanging("row 1 kind 0 walk 0;give 10;", 5).rush(1, 1, 2), 4);
        Due.is("19 / 10 is 1", hanging("row 1 kind 0 walk 0;give 19;", 5).rush(1, 1, 2), 4);
        Due.is("just 0", hanging("row 1 kind 0 walk 0;give 10;less 5;", 5).rush(1, 1, 2), 0);
        Due.is("0, not -1", hanging("row 1 kind 0 walk 0;give 12;less 5;", 5).rush(1, 1, 2), 0);
        Due.is("each by itself", hanging("row 2 kind 0 walk 0;give 20;less 20;", 0, 99).rush(3, 1, 2), 99 - 84);
        Due.is("nothing to lose", hanging("row 2 kind 0 walk 99;give 20;less 0;", 99, 99).rush(3, 1, 2), 198);
    }

    private static void sumGreatestTips() {
        Due.says("23: what = 0 the sum of WAITS, 1 the greatest, 2 TIPS that come");
        CoatsHall x = hanging("row 1 kind 0 walk 20;row 1 kind 0 walk 1;give 0;", 30, 9);
        rush(x, 3, 2, 42, 40, 26 + 9);
        rush(x, 2, 1, 2, 2, 9);
        rush(x, 3, 1, 82, 42, 26 + 5);
    }

    private static void emptySet() {
        Due.says("part 4: THE RUSH: a SET of GUESTS (of nobody)");
        for (CoatsHall x : new CoatsHall[] {new CoatsHall(), hanging("row 1 kind 0 walk 9;", 9)}) {
            for (int n = 1; n <= 4; n++) {
                rush(x, 0, n, 0, 0, 0);
                row(x, 0, n, 0);
            }
            Due.is("wanted(0, 0)", x.wanted(0, 0), 1);
            Due.is("wanted(0, 9999)", x.wanted(0, 9999), 1);
        }
    }

    private static void thingsThatHang() {
        Due.says("part 4: a SET of GUESTS whose THINGS hang; 23: UNKNOWN (bits; not hanging)");
        CoatsHall x = Due.withHall("row 3 kind 0 walk 1;");
        for (int g = 0; g < 3; g++) x.guest(0, 0, 1, 0);
        for (int g = 0; g < 3; g++) Due.is("not hung yet: " + g, x.rush(1 << g, 1, 0), UNKNOWN);
        x.hang(0, 1, 1, 1);
        Due.is("it hangs", x.rush(2, 1, 0), 6);
        for (int set : new int[] {1, 3, 4, 6, 7, 8, 10, 1 << 15, 1 << 16, 1 << 30, LEAST, LEAST | 2, -1, MOST}) {
            Due.is("rush of " + set, x.rush(set, 1, 0), UNKNOWN);
            Due.is("bestRow of " + set, x.bestRow(set, 1, 0), UNKNOWN);
            Due.is("wanted for " + set, x.wanted(set, 9), UNKNOWN);
        }
        x.lose(1);
        Due.is("without BRASS it hangs still", x.rush(2, 1, 0), 6);
        x.hang(0, 0, 0, 0);
        x.give(0, 0, 1);
        Due.is("it is given", x.rush(2, 1, 0), UNKNOWN);
        Due.is("one who HAS another's: its own hangs", x.rush(1, 1, 0), 4);
        CoatsHall y = sixteen("walk 0;give 1;");
        // Ticks 1, 3, 5, .. 31: the last HAND has 7, 15, 23 and 31 of them.
        Due.is("all sixteen", y.rush(0xffff, 4, 1), 7 + 15 + 23 + 31);
        Due.is("and a seventeenth", y.rush(0x1ffff, 4, 1), UNKNOWN);
    }

    private static void rushOutside() {
        Due.says("part 4: n HANDS (1 .. 4); 23: OUTSIDE");
        CoatsHall x = hanging("row 5 kind 0 walk 0;give 1;", 1, 1, 1, 1, 1);
        // Ticks 1 3 5 7 9.
        for (int n = 1; n <= 4; n++) Due.is("with " + n, x.rush(31, n, 1), new int[] {25, 15, 12, 10}[n - 1]);
        for (int n : new int[] {0, 5, -1, MOST, LEAST}) Due.is("n = " + n, x.rush(31, n, 0), OUTSIDE);
        for (int what : new int[] {-1, 3, MOST, LEAST}) Due.is("what = " + what, x.rush(31, 1, what), OUTSIDE);
        Due.is("of nobody, too", x.rush(0, 5, 0), OUTSIDE);
        Due.is("of nobody, too", x.rush(0, 1, 3), OUTSIDE);
    }

    // ---- the best row

    private static void mostTips() {
        Due.says("part 4: THE BEST ROW: of all rows of the SET that with the most TIPS");
        CoatsHall x = hanging("row 1 kind 0 walk 5;row 1 kind 0 walk 10;give 0;less 10;", 20, 50);
        // Ticks 10 and 20: 0 first brings 10 + 20, 1 first 30 + 0: like, and 0 first has the lesser sum of WAITS.
        row(x, 3, 1, 30, 0, 1);
        row(hanging("row 1 kind 0 walk 5;row 1 kind 0 walk 10;give 0;less 10;", 19, 50), 3, 1, 30, 1, 0);
        row(hanging("row 1 kind 0 walk 5;row 1 kind 0 walk 10;give 0;less 10;", 21, 50), 3, 1, 31, 0, 1);
        row(hanging("row 1 kind 0 walk 0;".repeat(3) + "give 10;less 10;", 5, 10, 30), 7, 1, 20, 2, 0, 1);
        row(hanging("row 1 kind 0 walk 0;".repeat(3) + "give 10;less 10;", 11, 30, 21), 7, 1, 20 + 1, 1, 2, 0);
    }

    private static void leastWaits() {
        Due.says("part 4: of like ones with the least sum of WAITS");
        row(hanging("row 1 kind 0 walk 3;row 1 kind 0 walk 2;row 1 kind 0 walk 1;less 0;", 7, 7, 7), 7, 1, 21, 2, 1, 0);
        row(hanging("row 1 kind 0 walk 30;row 1 kind 0 walk 20;row 1 kind 0 walk 10;less 20;", 0, 0, 0), 7, 1, 0, 2, 1, 0);
        // With two HANDS: 1 waits 10, 2 waits 2, and 0, who comes last, 20; or 0 waits 18, 2 waits 2, 1 waits 12.
        row(hanging("row 1 kind 0 walk 9;row 1 kind 0 walk 5;row 1 kind 0 walk 1;give 0;less 0;", 0, 0, 0), 7, 2, 0, 0, 2, 1);
    }

    private static void firstRow() {
        Due.says("part 4: of like ones the first (GUEST by GUEST the lesser number)");
        row(hanging("row 1 kind 0 walk 4;row 1 kind 0 walk 4;row 1 kind 0 walk 4;", 8, 8, 8), 7, 1, 7 + 6 + 5, 0, 1, 2);
        row(hanging("row 1 kind 0 walk 4;row 1 kind 0 walk 3;row 1 kind 0 walk 4;less 0;", 0, 0, 0), 7, 1, 0, 1, 0, 2);
        row(hanging("row 1 kind 0 walk 4;row 1 kind 0 walk 3;row 1 kind 0 walk 4;less 0;", 0, 0, 0), 7, 3, 0, 0, 1, 2);
        row(hanging("row 1 kind 0 walk 4;row 1 kind 0 walk 3;row 1 kind 0 walk 4;less 0;", 0, 0, 0), 5, 1, 0, 0, 2);
    }

    private static void sevenAtMost() {
        Due.says("part 4: of the SET (7 GUESTS at most); 24: NOT: more than 7 GUESTS");
        CoatsHall x = sixteen("walk 1;less 0;");
        Due.is("seven", x.bestRow(0x7f, 1, NONE), 0);
        Due.is("the last of seven", x.bestRow(0x7f, 1, 6), 6);
        Due.is("other seven", x.bestRow(0xfe00, 1, 6), 15);
        Due.is("seven here and there", x.bestRow(0b1010101010101, 1, 6), 12);
        for (int i : new int[] {NONE, 0, 7, MOST, LEAST}) {
            Due.is("eight, i = " + i, x.bestRow(0xff, 1, i), NOT);
            Due.is("sixteen, i = " + i, x.bestRow(0xffff, 4, i), NOT);
        }
        Due.is("THE RUSH takes them all", Math.min(0, x.rush(0xffff, 1, 0)), 0);
        CoatsHall y = hanging("row 7 kind 0 walk 0;less 0;give 0;", 1, 2, 3, 4, 5, 6, 7);
        row(y, 0x7f, 1, 28, 0, 1, 2, 3, 4, 5, 6);
        // The longest walks have the least numbers: the last of 5040 rows is the best.
        CoatsHall z = hanging("row 1 kind 0 walk 7;row 1 kind 0 walk 6;row 1 kind 0 walk 5;row 1 kind 0 walk 4;row 1 kind 0 walk 3;"
            + "row 1 kind 0 walk 2;row 1 kind 0 walk 1;less 0;", 0, 0, 0, 0, 0, 0, 0);
        row(z, 0x7f, 1, 0, 6, 5, 4, 3, 2, 1, 0);
    }

    private static void guestsOfTheRow() {
        Due.says("24: i = NONE its TIPS, else its i-th GUEST; NONE");
        CoatsHall x = hanging("row 3 kind 0 walk 1;less 0;", 2, 3, 4);
        row(x, 6, 1, 7, 1, 2);
        for (int i : new int[] {2, 3, 7, 16, MOST, -2, -3, LEAST}) Due.is("i = " + i, x.bestRow(6, 1, i), NONE);
        row(x, 4, 1, 4, 2);
    }

    private static void bestRowRefused() {
        Due.says("24: UNKNOWN, OUTSIDE (n), NOT");
        CoatsHall x = sixteen("walk 1;");
        for (int n : new int[] {0, 5, -1, MOST, LEAST}) {
            Due.is("n = " + n, x.bestRow(1, n, 0), OUTSIDE);
            Due.is("n = " + n + ", of nobody", x.bestRow(0, n, NONE), OUTSIDE);
            Due.is("n = " + n + ", of sixteen", x.bestRow(0xffff, n, 0), OUTSIDE);
            Due.is("n = " + n + ", of a seventeenth", x.bestRow(0x10000, n, 0), UNKNOWN);
        }
    }

    // ---- wanted

    private static void leastHands() {
        Due.says("part 4: WANTED: the least n (1 .. 4) so that, by numbers, nobody WAITS more than w");
        CoatsHall x = hanging("row 4 kind 0 walk 0;give 10;", 0, 0, 0, 0);
        // Ticks 10 12 14 16: greatest 52, 28, 26, 16.
        int[][] due = {{9999, 1}, {53, 1}, {52, 1}, {51, 2}, {28, 2}, {27, 3}, {26, 3}, {25, 4}, {16, 4}, {15, NONE}, {0, NONE}};
        for (int[] d : due) Due.is("wanted(15, " + d[0] + ")", x.wanted(15, d[0]), d[1]);
        // By numbers, not by THE BEST ROW: the longest comes last.
        CoatsHall y = hanging("row 1 kind 0 walk 1;row 1 kind 0 walk 1;row 1 kind 0 walk 2;give 0;", 0, 0, 0);
        Due.is("the last two one behind the other", y.wanted(7, 4), 3);
        Due.is("two have time for it", y.wanted(7, 6), 2);
        CoatsHall z = hanging("row 1 kind 0 walk 0;give 0;", 0);
        Due.is("no WAIT at all", z.wanted(1, 0), 1);
    }

    private static void wantedNone() {
        Due.says("25: WANTED; NONE");
        CoatsHall x = hanging("row 1 kind 0 walk 99;give 20;", 0);
        Due.is("just enough", x.wanted(1, 218), 1);
        Due.is("four do not help one", x.wanted(1, 217), NONE);
        CoatsHall y = sixteen("walk 99;give 20;");
        Due.is("9999 is enough for all", y.wanted(0xffff, 9999), 1);
        Due.is("0 for none of them", y.wanted(0xffff, 0), NONE);
    }

    private static void wantedRefused() {
        Due.says("25: UNKNOWN, OUTSIDE (w 0 .. 9999)");
        CoatsHall x = hanging("row 2 kind 0 walk 1;", 0, 0);
        for (int w : new int[] {-1, 10000, MOST, LEAST}) {
            Due.is("w = " + w, x.wanted(1, w), OUTSIDE);
            Due.is("w = " + w + ", of nobody", x.wanted(0, w), OUTSIDE);
            Due.is("w = " + w + ", of a third", x.wanted(4, w), UNKNOWN);
        }
        Due.is("w = 0", x.wanted(1, 0), NONE);
        Due.is("w = 9999", x.wanted(3, 9999), 1);
    }
}
