import java.util.function.Consumer;

/** IMAGES, promises 33 and 34, sentence by sentence. */
public final class ImageEdgesTest {
    private static final int NONE = -1, UNKNOWN = -1001, NOT = -1003;
    private static final int LEAST = Integer.MIN_VALUE, MOST = Integer.MAX_VALUE;
    private static final String HALL = "row 12 kind 0 walk 1;row 4 kind 1 walk 0;";

    public static void main(String[] args) {
        becomesWhatIsSo();
        guestsAreKept();
        eventsAreKept();
        claimsAreKept();
        whoHasWhatIsKept();
        nightsAreKept();
        notTheNight();
        noOtherThings();
        twoImages();
        keptAnew();
        becomesTheImage();
        emptyImage();
        fullImage();
        keepUnknown();
        goBackUnknown();
        wasNotKept();
        toldAnewSince();
        faultsAndNotTellNothing();
        Due.end();
    }

    private static CoatsHall withGuests(int guests) {
        CoatsHall x = Due.withHall(HALL);
        for (int g = 0; g < guests; g++) x.guest(g % 4, 0, g, g);
        return x;
    }

    private static CoatsHall hung(int guests) {
        CoatsHall x = withGuests(guests);
        for (int g = 0; g < guests; g++) x.hang(g % 4, g, g, g);
        return x;
    }

    /** What is kept, changed and gone back to shows in no call as having been changed. */
    private static void same(String what, Consumer<CoatsHall> before, Consumer<CoatsHall> behind) {
        for (int i = 0; i < 2; i++) {
            int image = i;
            Sight.same(what + " and back to " + i, () -> {
                CoatsHall x = withGuests(8);
                before.accept(x);
                x.keep(image);
                x.keep(1 - image);
                behind.accept(x);
                x.goBack(image);
                return x;
            }, () -> {
                CoatsHall x = withGuests(8);
                before.accept(x);
                x.keep(image);
                x.keep(1 - image);
                return x;
            });
        }
    }

    private static void becomesWhatIsSo() {
        Due.says("33: IMAGE i becomes what is so: 1");
        CoatsHall x = withGuests(2);
        for (int i = 0; i < 2; i++) Due.is("keep(" + i + ")", x.keep(i), 1);
        for (int i = 0; i < 2; i++) Due.is("again", x.keep(i), 1);
        for (int i = 0; i < 2; i++) Due.is("of a new object", new CoatsHall().keep(i), 1);
        Sight.same("keep changes nothing of what is so", () -> {
            CoatsHall y = hung(3);
            y.keep(0);
            y.keep(1);
            y.keep(0);
            return y;
        }, () -> {
            CoatsHall y = hung(3);
            y.keep(1);
            y.keep(0);
            return y;
        });
    }

    private static void guestsAreKept() {
        Due.says("part 5: IMAGES 0, 1 keep GUESTS");
        same("more GUESTS", x -> { }, x -> {
            for (int g = 8; g < 16; g++) x.guest(3, 1, 99, 255);
        });
        CoatsHall x = withGuests(1);
        x.keep(0);
        x.guest(1, 1, 11, 111);
        x.goBack(0);
        Due.is("no such GUEST", x.told(1, 0), UNKNOWN);
        Due.is("another in its place", x.guest(2, 0, 22, 222), 1);
        int[] due = {2, 0, 22, 222, NONE, NONE, NONE, NONE, 400};
        for (int what = 0; what <= 8; what++) Due.is("told(1, " + what + ")", x.told(1, what), due[what]);
        x.keep(1);
        x.goBack(0);
        x.guest(3, 2, 33, 33);
        x.goBack(1);
        for (int what = 0; what <= 8; what++) Due.is("the one that was kept, " + what, x.told(1, what), due[what]);
    }

    private static void eventsAreKept() {
        Due.says("part 5: IMAGES 0, 1 keep .. EVENTS");
        same("HANGING", x -> x.hang(0, 0, 0, 7), x -> {
            for (int g = 1; g < 8; g++) x.hang(1, g, g, g == 7 ? 0 : g);
        });
        same("GIVING", x -> {
            for (int g = 0; g < 8; g++) x.hang(0, g, g, g);
            x.give(0, 0, 1);
        }, x -> {
            for (int g = 1; g < 8; g++) x.give(2, g, g == 7 ? 0 : g + 1);
        });
        same("LOSING", x -> {
            for (int g = 0; g < 4; g++) x.hang(0, g, g, g);
            x.lose(1);
        }, x -> {
            x.lose(0);
            x.hang(3, 4, 4, 0);
            x.lose(2);
        });
        CoatsHall x = withGuests(2);
        x.hang(1, 0, 3, 4);
        x.keep(0);
        x.give(2, 0, 3);
        x.hang(3, 1, 5, 6);
        x.goBack(0);
        Due.is("other EVENTS in their place", x.lose(0), 1);
        int[] due = {2, NONE, 0, NONE, 4, NONE, 0};
        for (int what = 0; what <= 6; what++) Due.is("event(1, " + what + ")", x.event(1, what), due[what]);
        Due.is("none behind it", x.event(2, 0), UNKNOWN);
        x.keep(1);
        x.goBack(0);
        x.hang(3, 1, 6, 6);
        x.goBack(1);
        for (int what = 0; what <= 6; what++) Due.is("the one that was kept, " + what, x.event(1, what), due[what]);
    }

    private static void claimsAreKept() {
        Due.says("part 5: IMAGES 0, 1 keep .. CLAIMS (who has what)");
        same("more CLAIMS", x -> x.claim(0, 1, 2), x -> {
            for (int g = 1; g < 6; g++) x.claim(g, g, 0);
        });
        same("CLAIMS granted", x -> {
            for (int g = 0; g < 3; g++) x.hang(0, g, g, g);
            for (int g = 0; g < 2; g++) x.lose(g);
            x.claim(1, 1, 0);
            x.claim(4, 2, 0);
            x.claim(0, 0, 3);
        }, x -> {
            Due.is("granted", x.grant(2), 0);
            Due.is("granted", x.grant(1), 2);
            x.claim(5, 0, 0);
        });
        // Whose the CLAIM was: the same number, another GUEST and other MARKS.
        CoatsHall x = hung(3);
        x.guest(0, 1, 0, 0);
        x.lose(0);
        x.lose(1);
        x.claim(0, 1, 2);
        x.claim(1, 2, 1);
        x.keep(0);
        x.keep(1);
        Due.is("1's is granted", x.grant(0), 1);
        Due.is("2's is granted", x.grant(0), 2);
        x.claim(3, 4, 255 ^ 4);
        x.goBack(0);
        Due.is("3 has none", x.hang(0, 3, 12, 12), 5);
        Due.is("0 has one", x.claim(0, 0, 0), NOT);
        Due.is("1 has one", x.claim(1, 0, 0), NOT);
        Due.is("what the first FITS", x.fits(0), 0b010);
        Due.is("what the second FITS", x.fits(1), 0b100);
        Due.is("to 0", x.grant(0), 1);
        Due.is("0 HAS it", x.told(0, 7), 1);
        x.goBack(1);
        Due.is("the latter MARKS are those of then", x.fits(0), 0b010);
    }

    private static void whoHasWhatIsKept() {
        Due.says("part 5: (who has what)");
        CoatsHall x = hung(4);
        x.give(0, 0, 1);
        x.lose(2);
        x.keep(0);
        x.give(0, 1, 0);
        x.give(0, 3, 2);
        x.goBack(0);
        int[][] due = {{NONE, 0, NONE, 1}, {1, NONE, 0, NONE}, {NONE, 2, NONE, NONE}, {3, 3, NONE, NONE}};
        for (int g = 0; g < 4; g++) for (int what = 4; what <= 7; what++) Due.is("told(" + g + ", " + what + ")", x.told(g, what), due[g][what - 4]);
        Due.is("astray", x.astray(), 1);
        Due.is("BRASS 0 is nobody's", x.hang(0, x.guest(0, 0, 0, 0), 8, 0), 6);
    }

    private static void nightsAreKept() {
        Due.says("part 5: IMAGES 0, 1 keep .. NIGHTS");
        same("more NIGHTS", x -> x.night(1, 1, 1, 2, 3), x -> {
            for (int n = 0; n < 20; n++) x.night(n % 4, n % 2, 9, 99, 999);
        });
        CoatsHall x = new CoatsHall();
        x.night(0, 0, 7, 0, 0);
        x.keep(1);
        for (int n = 0; n < 59; n++) x.night(0, 0, 0, 999, 0);
        x.goBack(1);
        Due.is("one NIGHT", x.count(4), 1);
        Due.is("LEARNT of it", x.learnt(0, 0, 0), 800);
        Due.is("room for more", x.night(0, 0, 0, 0, 0), 2);
    }

    private static void notTheNight() {
        Due.says("part 5: (not THE NIGHT)");
        CoatsHall x = withGuests(1);
        x.keep(0);
        x.tonight(1, 0);
        x.keep(1);
        Due.is("LEARNT odds", x.told(0, 8), 333 + 666 + 1670);
        x.goBack(0);
        Due.is("THE NIGHT stays", x.told(0, 8), 333 + 666 + 1670);
        x.tonight(NONE, 0);
        x.goBack(1);
        Due.is("none stays none", x.told(0, 8), 400);
    }

    private static void noOtherThings() {
        Due.says("part 5: IMAGES keep GUESTS, EVENTS, CLAIMS and NIGHTS (not THE TEXT, the FAULT, THE HALL)");
        CoatsHall x = withGuests(1);
        x.keep(0);
        Due.is("a FAULT", Due.hallOf(x, "  ?"), -11);
        Due.feed(x, "give 1");
        x.goBack(0);
        Due.is("THE TEXT stays", x.count(5), 6);
        Due.is("the FAULT's place stays", x.fault(), 2);
        Due.feed(x, "3;");
        Due.is("it goes on", x.hall(), 0);
        Due.is("G", x.count(6), 13);
    }

    private static void twoImages() {
        Due.says("part 5: IMAGES 0, 1");
        CoatsHall x = withGuests(1);
        x.keep(0);
        x.guest(0, 0, 0, 0);
        x.keep(1);
        x.guest(0, 0, 0, 0);
        Due.is("back to 1", x.goBack(1), 1);
        Due.is("two GUESTS", x.count(1), 2);
        Due.is("back to 0", x.goBack(0), 1);
        Due.is("one GUEST", x.count(1), 1);
        Due.is("on to 1", x.goBack(1), 1);
        Due.is("two GUESTS", x.count(1), 2);
    }

    private static void keptAnew() {
        Due.says("33: IMAGE i becomes what is so (what it was before is gone)");
        CoatsHall x = hung(3);
        x.keep(0);
        x.give(0, 0, 0);
        x.keep(0);
        x.give(0, 1, 1);
        x.goBack(0);
        Due.is("EVENTS", x.count(2), 4);
        Due.is("0 HAS its own", x.told(0, 7), 0);
        Due.is("1 has nothing", x.told(1, 7), NONE);
        CoatsHall y = withGuests(0);
        y.keep(1);
        y.guest(0, 0, 0, 0);
        y.keep(0);
        y.goBack(1);
        y.keep(0);
        y.guest(0, 0, 0, 0);
        y.goBack(0);
        Due.is("an IMAGE of what was gone back to", y.count(1), 0);
    }

    private static void becomesTheImage() {
        Due.says("34: What is so becomes IMAGE i: 1");
        CoatsHall x = withGuests(3);
        x.keep(1);
        for (int times = 0; times < 5; times++) {
            Due.is("hang", x.hang(0, times % 3, times, times), 0);
            Due.is("keeps EVENTS", x.count(2), 1);
            Due.is("goBack(1)", x.goBack(1), 1);
            Due.is("the IMAGE stays as it is", x.count(2), 0);
            Due.is("and what hung is free", x.peg(times, 2), NONE);
        }
        Due.is("twice", x.goBack(1), 1);
    }

    private static void emptyImage() {
        Due.says("34: What is so becomes IMAGE i (one of nothing)");
        CoatsHall x = new CoatsHall();
        x.keep(0);
        x.guest(0, 0, 0, 0);
        x.night(0, 0, 0, 0, 0);
        x.claim(0, 0, 0);
        Due.is("goBack(0)", x.goBack(0), 1);
        for (int what = 0; what <= 5; what++) Due.is("count(" + what + ")", x.count(what), 0);
        Due.is("ways", x.ways(), 1);
    }

    private static void fullImage() {
        Due.says("34: What is so becomes IMAGE i (one that is full)");
        CoatsHall x = Due.withHall("row 24 kind 0 walk 0;");
        x.keep(1);
        for (int g = 0; g < 16; g++) x.guest(g % 4, 0, 90 + g % 10, 240 + g);
        for (int g = 0; g < 16; g++) x.hang(g % 4, g, 23 - g, g);
        for (int g = 0; g < 16; g++) x.lose(g);
        for (int g = 10; g < 16; g++) x.claim(g, 0, 0);
        for (int n = 0; n < 60; n++) x.night(3, 1, 999, 999, 999);
        x.keep(0);
        x.goBack(1);
        Due.is("none", x.count(1), 0);
        x.goBack(0);
        int[] due = {24, 16, 32, 6, 60};
        for (int what = 0; what <= 4; what++) Due.is("count(" + what + ")", x.count(what), due[what]);
        for (int g = 0; g < 16; g++) {
            Due.is("SORT", x.told(g, 0), g % 4);
            Due.is("TIP", x.told(g, 2), 90 + g % 10);
            Due.is("MARKS", x.told(g, 3), 240 + g);
            Due.is("PEG", x.told(g, 5), 23 - g);
            Due.is("the EVENT of its HANGING", x.event(g, 3), 23 - g);
            Due.is("the EVENT of its LOSING", x.event(16 + g, 2), g);
        }
        Due.is("the last CLAIM", x.fits(5), 0xffff);
        Due.is("ways", x.ways(), 16L * 15 * 14 * 13 * 12 * 11);
    }

    private static void keepUnknown() {
        Due.says("33: UNKNOWN");
        CoatsHall x = withGuests(1);
        for (int i : new int[] {-1, 2, 3, MOST, LEAST}) Due.is("keep(" + i + ")", x.keep(i), UNKNOWN);
        for (int i = 0; i < 2; i++) Due.is("nothing was kept", x.goBack(i), NOT);
    }

    private static void goBackUnknown() {
        Due.says("34: UNKNOWN");
        CoatsHall x = withGuests(1);
        for (int times = 0; times < 2; times++) {
            for (int i : new int[] {-1, 2, 3, MOST, LEAST}) Due.is("goBack(" + i + ")", x.goBack(i), UNKNOWN);
            x.keep(0);
            x.keep(1);
        }
    }

    private static void wasNotKept() {
        Due.says("34: NOT: it was not kept");
        for (int kept = 0; kept < 2; kept++) {
            CoatsHall x = withGuests(1);
            Due.is("neither", x.goBack(0), NOT);
            Due.is("neither", x.goBack(1), NOT);
            x.keep(kept);
            Due.is("the other", x.goBack(1 - kept), NOT);
            Due.is("the one", x.goBack(kept), 1);
            Due.is("the other still", x.goBack(1 - kept), NOT);
        }
    }

    private static void toldAnewSince() {
        Due.says("34: NOT: .. or THE HALL was told anew since");
        for (String text : new String[] {HALL, "row 1 kind 0 walk 0;", "", "   ", "give 2;"}) {
            CoatsHall x = withGuests(2);
            x.keep(0);
            x.keep(1);
            Due.is("told anew", Math.min(0, Due.hallOf(x, text)), 0);
            for (int i = 0; i < 2; i++) Due.is("goBack(" + i + ") after '" + text + "'", x.goBack(i), NOT);
            Due.is("GUESTS stay", x.count(1), 2);
            x.guest(0, 0, 0, 0);
            Due.is("kept since", x.keep(1), 1);
            Due.is("the other is not", x.goBack(0), NOT);
            x.guest(0, 0, 0, 0);
            Due.is("goBack(1)", x.goBack(1), 1);
            Due.is("what is so since", x.count(1), 3);
        }
        // Told anew where an IMAGE without EVENTS was gone back to: the other, with EVENTS, is good no more either.
        CoatsHall y = withGuests(1);
        y.keep(0);
        y.hang(0, 0, 0, 0);
        y.keep(1);
        y.goBack(0);
        Due.is("told anew", Due.hallOf(y, "row 1 kind 1 walk 0;"), 1);
        Due.is("nothing of 0 hangs on what is no PEG of its KIND", y.goBack(1), NOT);
        Due.is("no EVENTS", y.count(2), 0);
    }

    private static void faultsAndNotTellNothing() {
        Due.says("3: (all else is as it was), NOT; 34: it was told anew (neither tells THE HALL)");
        CoatsHall x = withGuests(1);
        x.keep(0);
        Due.is("a FAULT", Due.hallOf(x, "row"), -11);
        Due.is("goBack(0)", x.goBack(0), 1);
        x.hang(0, 0, 0, 0);
        x.keep(1);
        Due.is("NOT", Due.hallOf(x, HALL), NOT);
        Due.is("goBack(0)", x.goBack(0), 1);
        Due.is("goBack(1)", x.goBack(1), 1);
        Due.is("its EVENT", x.count(2), 1);
    }
}
