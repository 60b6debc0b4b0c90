/** Part 2 and promises 10 to 13, sentence by sentence. */
public final class PlanEdgesTest {
    private static final int NONE = -1, UNKNOWN = -1001, OUTSIDE = -1002, FULL = -1004;
    private static final int LEAST = Integer.MIN_VALUE, MOST = Integer.MAX_VALUE;

    public static void main(String[] args) {
        eachOfItsKind();
        sumOfAll();
        greatestFirst();
        likeGuests();
        likePegs();
        habit();
        tooFew();
        nobody();
        pegOrSum();
        guestsThatThereAreNot();
        nightBounds();
        sixtyNights();
        learntOdds();
        onSuchNights();
        endHasTheRest();
        learntBounds();
        noneAtFirst();
        tenfold();
        nightIsSo();
        tonightBounds();
        Due.end();
    }

    private static void plan(CoatsHall x, boolean habit, int sum, int... pegs) {
        Due.is("SUM, habit " + habit, x.plan(habit, NONE), sum);
        for (int g = 0; g < pegs.length; g++) Due.is("PEG of " + g + ", habit " + habit, x.plan(habit, g), pegs[g]);
    }

    // ---- plans

    private static void eachOfItsKind() {
        Due.says("part 2: A PLAN gives each GUEST a PEG of its KIND, each PEG once");
        CoatsHall x = Due.withHall("row 8 kind 2 walk 0;row 8 kind 0 walk 1;row 8 kind 1 walk 2;");
        for (int g = 0; g < 16; g++) x.guest(g % 4, g % 3, 0, 0);
        for (boolean habit : new boolean[] {false, true}) {
            int used = 0;
            for (int g = 0; g < 16; g++) {
                int p = x.plan(habit, g);
                Due.is("KIND of " + p, x.peg(p, 0), g % 3);
                Due.is("once", used >> p & 1, 0);
                used |= 1 << p;
            }
        }
        // PEGS on which something hangs are given, too: the PLAN asks for PEGS, not for free ones.
        CoatsHall y = Due.withHall("row 2 kind 0 walk 1;");
        y.guest(0, 0, 0, 0);
        y.guest(0, 0, 0, 0);
        y.hang(0, 1, 0, 0);
        plan(y, false, 400 * 3, 0, 1);
        plan(y, true, 400 * 3, 0, 1);
    }

    private static void sumOfAll() {
        Due.says("part 2: its SUM: EXPECTED times walk, of all");
        CoatsHall x = Due.withHall("row 24 kind 0 walk 99;odds 0 100 0 0;weights 9 9 9;");
        for (int g = 0; g < 16; g++) x.guest(0, 0, 0, 0);
        int walks = 0;
        for (int p = 0; p < 16; p++) walks += 99 + p;
        plan(x, false, 900 * walks);
        plan(x, true, 900 * walks);
        x.tonight(0, 0);
        plan(x, false, 9000 * walks);
        plan(Due.withHall("row 1 kind 0 walk 0;"), false, 0);
    }

    private static void greatestFirst() {
        Due.says("part 2: of each KIND GUESTS by EXPECTED, the greatest first, PEGS by walk, the least first");
        CoatsHall x = Due.withHall("row 1 kind 0 walk 30;row 1 kind 0 walk 10;row 1 kind 0 walk 20;row 1 kind 1 walk 5;odds 0 100 0 0;odds 1 0 0 100;odds 2 0 100 0;");
        for (int g = 0; g < 3; g++) x.guest(g, 0, 0, 0);
        x.guest(0, 1, 0, 0);
        // EXPECTED: 100, 500, 200, 100.
        plan(x, false, 100 * 30 + 500 * 10 + 200 * 20 + 100 * 5, 0, 1, 2, 3);
        plan(x, true, 100 * 10 + 500 * 20 + 200 * 30 + 100 * 5, 1, 2, 0, 3);
        CoatsHall y = Due.withHall("row 2 kind 0 walk 0;odds 0 51 49 0;odds 1 50 50 0;");
        y.guest(0, 0, 0, 0);
        y.guest(1, 0, 0, 0);
        // EXPECTED 149 and 150: one more is enough.
        plan(y, false, 149, 1, 0);
    }

    private static void likeGuests() {
        Due.says("part 2: GUESTS by EXPECTED (of like ones the least number)");
        CoatsHall x = Due.withHall("row 16 kind 0 walk 3;");
        for (int g = 0; g < 16; g++) x.guest(g % 4, 0, g, g);
        for (int g = 0; g < 16; g++) Due.is("PEG of " + g, x.plan(false, g), g);
        CoatsHall y = Due.withHall("row 4 kind 0 walk 0;odds 2 0 0 100;");
        for (int g = 0; g < 4; g++) y.guest(g < 2 ? 0 : 2, 0, 0, 0);
        plan(y, false, 500 + 400 * 2 + 400 * 3, 2, 3, 0, 1);
    }

    private static void likePegs() {
        Due.says("part 2: PEGS by walk, the least first (likewise)");
        CoatsHall x = Due.withHall("row 2 kind 0 walk 1;row 2 kind 0 walk 0;row 2 kind 0 walk 1;");
        for (int g = 0; g < 6; g++) x.guest(0, 0, 0, 0);
        // Walks 1 2 0 1 1 2.
        plan(x, false, 400 * 7, 2, 0, 3, 4, 1, 5);
        plan(x, true, 400 * 7, 2, 0, 3, 4, 1, 5);
    }

    private static void habit() {
        Due.says("part 2: THE HABIT: GUEST by GUEST, by numbers, the PEG of its KIND with the least walk that is left (of like ones the least)");
        CoatsHall x = Due.withHall("row 1 kind 1 walk 9;row 2 kind 0 walk 5;row 1 kind 0 walk 5;row 1 kind 1 walk 0;odds 1 0 0 100;odds 2 100 0 0;");
        int[][] guests = {{2, 0}, {1, 1}, {1, 0}, {2, 1}, {1, 0}};
        for (int[] g : guests) x.guest(g[0], g[1], 0, 0);
        plan(x, true, 100 * 5 + 500 * 0 + 500 * 5 + 100 * 9 + 500 * 6, 1, 4, 3, 0, 2);
        plan(x, false, 500 * 5 + 500 * 5 + 100 * 6 + 500 * 0 + 100 * 9, 2, 4, 1, 0, 3);
    }

    private static void tooFew() {
        Due.says("part 2: NONE: of some KIND there are too few; 10: NONE: there is none");
        for (int kind = 0; kind < 3; kind++) {
            for (int pegs = 1; pegs <= 16; pegs += 5) {
                CoatsHall x = Due.withHall("row " + pegs + " kind " + kind + " walk 0;row 3 kind " + (kind + 1) % 3 + " walk 0;");
                x.guest(0, (kind + 1) % 3, 0, 0);
                for (int g = 1; g <= pegs && g < 16; g++) x.guest(0, kind, 0, 0);
                Due.is("just enough", Math.min(0, x.plan(false, NONE)), 0);
                Due.is("just enough", Math.min(0, x.plan(true, NONE)), 0);
                if (pegs == 16) continue;
                x.guest(0, kind, 0, 0);
                for (int g = NONE; g <= pegs + 1; g++) {
                    Due.is("one too few, of " + g, x.plan(false, g), NONE);
                    Due.is("one too few, of " + g, x.plan(true, g), NONE);
                }
            }
        }
        CoatsHall y = new CoatsHall();
        y.guest(0, 2, 0, 0);
        plan(y, false, NONE, NONE);
        plan(y, true, NONE, NONE);
    }

    private static void nobody() {
        Due.says("10: g = NONE: the SUM (of nobody)");
        plan(new CoatsHall(), false, 0);
        plan(new CoatsHall(), true, 0);
        plan(Due.withHall("row 24 kind 0 walk 99;"), false, 0);
        plan(Due.withHall("row 24 kind 0 walk 99;"), true, 0);
    }

    private static void pegOrSum() {
        Due.says("10: the PEG of a GUEST; g = NONE: the SUM");
        CoatsHall x = Due.withHall("row 1 kind 1 walk 0;row 1 kind 0 walk 0;");
        x.guest(0, 0, 0, 0);
        x.guest(0, 1, 0, 0);
        plan(x, false, 0, 1, 0);
        plan(x, true, 0, 1, 0);
    }

    private static void guestsThatThereAreNot() {
        Due.says("10: UNKNOWN");
        CoatsHall x = Due.withHall("row 1 kind 0 walk 0;");
        for (boolean habit : new boolean[] {false, true}) {
            Due.is("nobody", x.plan(habit, 0), UNKNOWN);
        }
        x.guest(0, 0, 0, 0);
        for (boolean habit : new boolean[] {false, true}) {
            for (int g : new int[] {1, -2, 16, MOST, LEAST}) Due.is("plan(" + habit + ", " + g + ")", x.plan(habit, g), UNKNOWN);
        }
        x.guest(0, 0, 0, 0);
        for (boolean habit : new boolean[] {false, true}) {
            Due.is("there is none, and no such GUEST", x.plan(habit, 2), UNKNOWN);
            Due.is("there is none", x.plan(habit, 1), NONE);
        }
    }

    // ---- nights

    private static void nightBounds() {
        Due.says("part 2: of a PLAY (0 .. 3), a WEATHER (0, 1), how many left (0 .. 999 each); 11: OUTSIDE");
        int[] most = {3, 1, 999, 999, 999};
        for (int k = 0; k < 5; k++) {
            CoatsHall x = new CoatsHall();
            for (int value : new int[] {-1, most[k] + 1, LEAST, MOST}) {
                int[] a = new int[5];
                a[k] = value;
                Due.is("argument " + k + " is " + value, x.night(a[0], a[1], a[2], a[3], a[4]), OUTSIDE);
            }
            Due.is("no NIGHT", x.count(4), 0);
            int nights = 0;
            for (int value : new int[] {0, most[k]}) {
                int[] a = new int[5];
                a[k] = value;
                Due.is("argument " + k + " is " + value, x.night(a[0], a[1], a[2], a[3], a[4]), ++nights);
            }
        }
    }

    private static void sixtyNights() {
        Due.says("part 2: NIGHTS (60 at most); 11: how many there are. FULL");
        CoatsHall x = new CoatsHall();
        for (int n = 1; n <= 59; n++) Due.is("NIGHT " + n, x.night(n % 4, n % 2, 0, 0, 0), n);
        x.keep(0);
        Due.is("the sixtieth", x.night(0, 0, 999, 0, 0), 60);
        Due.is("the next", x.night(0, 0, 0, 999, 0), FULL);
        Due.is("sixty", x.count(4), 60);
        Due.is("LEARNT of the sixtieth alone", x.learnt(0, 0, 1), 1000 / 1002);
        x.goBack(0);
        Due.is("fifty-nine again: there is room", x.night(0, 0, 0, 999, 0), 60);
        Due.is("LEARNT of the other", x.learnt(0, 0, 0), 1000 / 1002);
        Due.is("for one", x.night(0, 0, 0, 999, 0), FULL);
    }

    private static void learntOdds() {
        Due.says("part 2: LEARNT odds: (1000 times (all that left so on such NIGHTS, and 1)) / (all on such NIGHTS, and 3), of a thousand");
        CoatsHall x = new CoatsHall();
        Due.is("no NIGHT", x.learnt(3, 1, 0), 333);
        Due.is("no NIGHT", x.learnt(3, 1, 1), 333);
        x.night(3, 1, 0, 0, 0);
        Due.is("a NIGHT of nobody", x.learnt(3, 1, 0), 333);
        x.night(3, 1, 1, 0, 0);
        Due.is("one early: 2000 / 4", x.learnt(3, 1, 0), 500);
        Due.is("none in the break: 1000 / 4", x.learnt(3, 1, 1), 250);
        x.night(3, 1, 2, 5, 7);
        Due.is("4000 / 18", x.learnt(3, 1, 0), 222);
        Due.is("6000 / 18", x.learnt(3, 1, 1), 333);
        CoatsHall y = new CoatsHall();
        for (int n = 0; n < 60; n++) y.night(0, 0, 999, 0, 0);
        Due.is("the most early", y.learnt(0, 0, 0), 999);
        Due.is("in the break", y.learnt(0, 0, 1), 0);
        CoatsHall z = new CoatsHall();
        for (int n = 0; n < 60; n++) z.night(0, 0, 0, 999, 999);
        Due.is("the most in the break", z.learnt(0, 0, 1), 1000L * 59941 / 119883);
    }

    private static void onSuchNights() {
        Due.says("part 2: LEARNT odds for a PLAY and WEATHER: on such NIGHTS");
        CoatsHall x = new CoatsHall();
        for (int play = 0; play < 4; play++) for (int weather = 0; weather < 2; weather++) x.night(play, weather, 10 * play + weather, 0, 0);
        for (int play = 0; play < 4; play++) {
            for (int weather = 0; weather < 2; weather++) {
                int left = 10 * play + weather;
                Due.is("early", x.learnt(play, weather, 0), 1000 * (left + 1) / (left + 3));
                Due.is("pause", x.learnt(play, weather, 1), 1000 / (left + 3));
            }
        }
    }

    private static void endHasTheRest() {
        Due.says("part 2: the end has what is left of 1000");
        CoatsHall x = new CoatsHall();
        Due.is("no NIGHT", x.learnt(0, 0, 2), 334);
        x.night(0, 0, 0, 0, 3);
        Due.is("666 by the rule for the others", x.learnt(0, 0, 2), 1000 - 166 - 166);
        x.night(0, 0, 0, 0, 999);
        Due.is("the others have none", x.learnt(0, 0, 2), 1000);
        x.night(1, 0, 999, 999, 0);
        Due.is("1001 of one thousand", x.learnt(1, 0, 2), 1000 - 499 - 499);
    }

    private static void learntBounds() {
        Due.says("12: what = 0 early, 1 in the break, 2 at the end. OUTSIDE");
        CoatsHall x = new CoatsHall();
        x.night(3, 1, 1, 2, 3);
        int[] due = {222, 333, 445};
        for (int what = 0; what < 3; what++) Due.is("learnt(3, 1, " + what + ")", x.learnt(3, 1, what), due[what]);
        for (int play : new int[] {-1, 4, MOST, LEAST}) Due.is("PLAY " + play, x.learnt(play, 1, 0), OUTSIDE);
        for (int weather : new int[] {-1, 2, MOST, LEAST}) Due.is("WEATHER " + weather, x.learnt(3, weather, 0), OUTSIDE);
        for (int what : new int[] {-1, 3, MOST, LEAST}) Due.is("what " + what, x.learnt(3, 1, what), OUTSIDE);
    }

    // ---- the night

    private static void noneAtFirst() {
        Due.says("part 2: THE NIGHT is .. none (at first)");
        CoatsHall x = Due.withHall("row 1 kind 0 walk 1;");
        x.guest(0, 0, 0, 0);
        Due.is("told odds", x.told(0, 8), 400);
        x.night(0, 0, 999, 999, 999);
        Due.is("a NIGHT is not THE NIGHT", x.told(0, 8), 400);
        Due.is("nor in the PLAN", x.plan(false, NONE), 400);
    }

    private static void tenfold() {
        Due.says("part 2: LEARNT odds are in place of all told ones (in thousandths, so EXPECTED is tenfold)");
        CoatsHall x = Due.withHall("row 4 kind 0 walk 1;odds 0 100 0 0;odds 1 0 100 0;odds 2 0 0 100;odds 3 10 20 70;weights 1 2 5;");
        for (int g = 0; g < 4; g++) x.guest(g, 0, 0, 0);
        x.night(2, 1, 96, 199, 702);
        x.tonight(2, 1);
        for (int g = 0; g < 4; g++) Due.is("of each SORT", x.told(g, 8), 97 + 2 * 200 + 5 * 703);
        Due.hallOf(x, "weights 9 9 9;");
        for (int g = 0; g < 4; g++) Due.is("together 1000", x.told(g, 8), 9000);
        Due.hallOf(x, "row 4 kind 0 walk 1;weights 0 0 9;");
        Due.is("all alike: by numbers", x.plan(false, 2), 2);
        Due.is("the SUM is tenfold, too", x.plan(false, NONE), 703 * 9 * 10);
        Due.is("told odds stay told", x.odds(3, 2), 70);
    }

    private static void nightIsSo() {
        Due.says("13: THE NIGHT is so (play = NONE: none): 1");
        CoatsHall x = Due.withHall("weights 1 0 0;");
        x.guest(0, 0, 0, 0);
        for (int n = 0; n < 8; n++) x.night(n / 2, n % 2, 100 * n, 0, 0);
        for (int n = 0; n < 8; n++) {
            Due.is("tonight", x.tonight(n / 2, n % 2), 1);
            Due.is("EXPECTED", x.told(0, 8), 1000 * (100 * n + 1) / (100 * n + 3));
        }
        for (int weather = 0; weather < 2; weather++) {
            x.tonight(3, 1);
            Due.is("none", x.tonight(NONE, weather), 1);
            Due.is("told odds", x.told(0, 8), 10);
        }
        Due.is("none twice", x.tonight(NONE, 0), 1);
    }

    private static void tonightBounds() {
        Due.says("13: OUTSIDE");
        CoatsHall x = Due.withHall("weights 1 0 0;");
        x.guest(0, 0, 0, 0);
        x.night(3, 1, 997, 0, 0);
        for (int times = 0; times < 2; times++) {
            int due = times == 0 ? 10 : 998;
            for (int play : new int[] {-2, 4, MOST, LEAST}) {
                Due.is("PLAY " + play, x.tonight(play, 0), OUTSIDE);
                Due.is("THE NIGHT is as it was", x.told(0, 8), due);
            }
            for (int weather : new int[] {-1, 2, MOST, LEAST}) {
                Due.is("WEATHER " + weather, x.tonight(2, weather), OUTSIDE);
                Due.is("WEATHER " + weather + " of no PLAY", x.tonight(NONE, weather), OUTSIDE);
                Due.is("THE NIGHT is as it was", x.told(0, 8), due);
            }
            x.tonight(3, 1);
        }
    }
}
