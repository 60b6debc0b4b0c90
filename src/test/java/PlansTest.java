/** Promises 10 to 13: plans, nights, learnt odds, the night. */
public final class PlansTest {
    private static final int NONE = -1, UNKNOWN = -1001, OUTSIDE = -1002, FULL = -1004;
    private static final int LEAST = Integer.MIN_VALUE, MOST = Integer.MAX_VALUE;

    public static void main(String[] args) {
        plans();
        sixteen();
        noPlan();
        likeOnes();
        leastIsLeast();
        nights();
        learnt();
        tonight();
        Due.end();
    }

    private static void plan(CoatsHall x, boolean habit, int sum, int... pegs) {
        Due.is("10: sum, habit " + habit, x.plan(habit, NONE), sum);
        for (int g = 0; g < pegs.length; g++) Due.is("10: peg of " + g + ", habit " + habit, x.plan(habit, g), pegs[g]);
    }

    private static void plans() {
        CoatsHall x = Due.withHall("row 2 kind 0 walk 7;row 2 kind 0 walk 3;row 1 kind 1 walk 2;odds 1 100 0 0;odds 2 0 0 100;");
        plan(x, false, 0);
        plan(x, true, 0);
        x.guest(1, 0, 0, 0);
        x.guest(2, 0, 0, 0);
        x.guest(0, 0, 0, 0);
        x.guest(0, 1, 0, 0);
        // Expected: 100, 500, 400, 400; walks 7 8 3 4 and 2.
        plan(x, false, 500 * 3 + 400 * 4 + 100 * 7 + 400 * 2, 0, 2, 3, 4);
        plan(x, true, 100 * 3 + 500 * 4 + 400 * 7 + 400 * 2, 2, 3, 0, 4);
        Due.is("10: guest 4", x.plan(false, 4), UNKNOWN);
        Due.is("10: guest -2", x.plan(true, -2), UNKNOWN);
        Due.is("10: guest least", x.plan(false, LEAST), UNKNOWN);
        Due.is("10: guest most", x.plan(false, MOST), UNKNOWN);
        // Plans ask neither for what hangs nor for who has what.
        x.hang(0, 0, 2, 2);
        plan(x, false, 500 * 3 + 400 * 4 + 100 * 7 + 400 * 2, 0, 2, 3, 4);
        x.night(0, 0, 0, 0, 0);
        x.tonight(0, 0);
        int each = 333 + 2 * 333 + 5 * 334;
        plan(x, false, each * (3 + 4 + 7 + 2), 2, 3, 0, 4);
    }

    private static void sixteen() {
        CoatsHall x = Due.withHall("row 24 kind 0 walk 0;odds 0 100 0 0;");
        for (int g = 0; g < 16; g++) x.guest(g == 15 ? 1 : 0, 0, 0, 0);
        for (int g = 0; g < 16; g++) {
            Due.is("10: the last first", x.plan(false, g), g == 15 ? 0 : g + 1);
            Due.is("10: by habit", x.plan(true, g), g);
        }
        Due.is("10: sum", x.plan(false, NONE), 100 * (15 * 16 / 2));
        Due.is("10: sum", x.plan(true, NONE), 100 * (14 * 15 / 2) + 400 * 15);
    }

    private static void noPlan() {
        CoatsHall x = Due.withHall("row 1 kind 0 walk 0;row 1 kind 2 walk 0;");
        x.guest(0, 0, 0, 0);
        plan(x, false, 0, 0);
        x.guest(0, 1, 0, 0);
        plan(x, false, NONE, NONE, NONE);
        plan(x, true, NONE, NONE, NONE);
        Due.is("10: UNKNOWN before NONE", x.plan(false, 2), UNKNOWN);
        CoatsHall y = Due.withHall("row 1 kind 0 walk 0;");
        y.guest(0, 0, 0, 0);
        y.guest(0, 0, 0, 0);
        plan(y, false, NONE, NONE, NONE);
        plan(y, true, NONE, NONE, NONE);
    }

    private static void likeOnes() {
        CoatsHall x = Due.withHall("row 2 kind 0 walk 1;row 2 kind 0 walk 1;");
        for (int g = 0; g < 4; g++) x.guest(0, 0, 0, 0);
        plan(x, false, 400 * 6, 0, 2, 1, 3);
        plan(x, true, 400 * 6, 0, 2, 1, 3);
        CoatsHall y = Due.withHall("row 3 kind 0 walk 0;weights 0 0 0;");
        for (int g = 0; g < 3; g++) y.guest(g, 0, 0, 0);
        plan(y, false, 0, 0, 1, 2);
    }

    /** No way of giving five guests their pegs has a lesser sum. */
    private static void leastIsLeast() {
        CoatsHall x = Due.withHall("row 3 kind 0 walk 9;row 4 kind 0 walk 2;odds 0 80 10 10;odds 1 5 5 90;odds 2 50 25 25;odds 3 0 60 40;");
        int[] expected = new int[5], walks = new int[7];
        for (int g = 0; g < 5; g++) x.guest(g % 4, 0, 0, 0);
        for (int g = 0; g < 5; g++) expected[g] = x.told(g, 8);
        for (int p = 0; p < 7; p++) walks[p] = x.peg(p, 1);
        Due.is("10: least", x.plan(false, NONE), least(expected, walks, 0, 0));
    }

    private static int least(int[] expected, int[] walks, int g, int used) {
        if (g == expected.length) return 0;
        int best = MOST;
        for (int p = 0; p < walks.length; p++) {
            if ((used >> p & 1) == 0) best = Math.min(best, expected[g] * walks[p] + least(expected, walks, g + 1, used | 1 << p));
        }
        return best;
    }

    private static void nights() {
        CoatsHall x = new CoatsHall();
        int[][] wrong = {{4, 0, 0, 0, 0}, {-1, 0, 0, 0, 0}, {0, 2, 0, 0, 0}, {0, -1, 0, 0, 0}, {0, 0, 1000, 0, 0}, {0, 0, -1, 0, 0},
            {0, 0, 0, 1000, 0}, {0, 0, 0, -1, 0}, {0, 0, 0, 0, 1000}, {0, 0, 0, 0, -1}, {MOST, MOST, MOST, MOST, MOST}};
        for (int[] w : wrong) Due.is("11: OUTSIDE", x.night(w[0], w[1], w[2], w[3], w[4]), OUTSIDE);
        Due.is("11: none", x.count(4), 0);
        for (int n = 1; n <= 60; n++) Due.is("11: night " + n, x.night(3, 1, 999, 999, 999), n);
        Due.is("11: FULL", x.night(0, 0, 0, 0, 0), FULL);
        for (int[] w : wrong) Due.is("11: OUTSIDE before FULL", x.night(w[0], w[1], w[2], w[3], w[4]), OUTSIDE);
        Due.is("11: sixty", x.count(4), 60);
        Due.is("12: many left", x.learnt(3, 1, 0), 333);
        Due.is("12: FULL changed nothing", x.learnt(0, 0, 2), 334);
    }

    private static void learnt() {
        CoatsHall x = new CoatsHall();
        for (int play = 0; play < 4; play++) {
            for (int weather = 0; weather < 2; weather++) {
                Due.is("12: nothing learnt", x.learnt(play, weather, 0), 333);
                Due.is("12: nothing learnt", x.learnt(play, weather, 1), 333);
                Due.is("12: nothing learnt", x.learnt(play, weather, 2), 334);
            }
        }
        x.night(1, 0, 4, 0, 2);
        x.night(1, 1, 0, 0, 999);
        x.night(2, 0, 7, 7, 7);
        x.night(1, 0, 1, 2, 3);
        // Of play 1, weather 0: 5, 2, 5 of 12.
        Due.is("12: early", x.learnt(1, 0, 0), 6000 / 15);
        Due.is("12: pause", x.learnt(1, 0, 1), 3000 / 15);
        Due.is("12: end", x.learnt(1, 0, 2), 1000 - 400 - 200);
        Due.is("12: early", x.learnt(1, 1, 0), 0);
        Due.is("12: pause", x.learnt(1, 1, 1), 0);
        Due.is("12: the end has what is left", x.learnt(1, 1, 2), 1000);
        Due.is("12: early", x.learnt(2, 0, 0), 8000 / 24);
        Due.is("12: play 4", x.learnt(4, 0, 0), OUTSIDE);
        Due.is("12: play -1", x.learnt(-1, 0, 0), OUTSIDE);
        Due.is("12: weather 2", x.learnt(0, 2, 0), OUTSIDE);
        Due.is("12: weather -1", x.learnt(0, -1, 0), OUTSIDE);
        Due.is("12: what 3", x.learnt(0, 0, 3), OUTSIDE);
        Due.is("12: what -1", x.learnt(0, 0, -1), OUTSIDE);
        Due.is("12: far out", x.learnt(LEAST, MOST, MOST), OUTSIDE);
    }

    private static void tonight() {
        CoatsHall x = Due.withHall("row 2 kind 0 walk 3;weights 1 0 3;");
        x.guest(0, 0, 0, 0);
        x.night(3, 1, 4, 0, 2);
        Due.is("13: told odds", x.told(0, 8), 10 + 210);
        Due.is("13: tonight(3, 1)", x.tonight(3, 1), 1);
        int expected = 5000 / 9 + 3 * (1000 - 5000 / 9 - 1000 / 9);
        Due.is("13: learnt odds", x.told(0, 8), expected);
        Due.is("13: and the plan", x.plan(false, NONE), 3 * expected);
        Due.is("13: play 4", x.tonight(4, 0), OUTSIDE);
        Due.is("13: play -2", x.tonight(-2, 0), OUTSIDE);
        Due.is("13: weather 2", x.tonight(0, 2), OUTSIDE);
        Due.is("13: weather -1", x.tonight(0, -1), OUTSIDE);
        Due.is("13: weather 2 of no play", x.tonight(NONE, 2), OUTSIDE);
        Due.is("13: nothing changed", x.told(0, 8), expected);
        x.night(3, 1, 0, 0, 90);
        Due.is("13: the night learns on", x.told(0, 8), 50 + 3 * (1000 - 50 - 10));
        Due.is("13: none", x.tonight(NONE, 1), 1);
        Due.is("13: told odds again", x.told(0, 8), 220);
        Due.is("13: no play, no night", x.tonight(0, 0), 1);
        Due.is("13: thirds", x.told(0, 8), 333 + 3 * 334);
    }
}
