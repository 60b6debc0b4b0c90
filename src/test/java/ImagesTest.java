/** Promises 33 and 34: what images keep, and going back. */
public final class ImagesTest {
    private static final int NONE = -1, UNKNOWN = -1001, NOT = -1003;
    private static final int LEAST = Integer.MIN_VALUE, MOST = Integer.MAX_VALUE;

    public static void main(String[] args) {
        refusals();
        whatIsKept();
        nothingIsLeftOver();
        whatIsNotKept();
        imagesStay();
        hallToldAnew();
        Due.end();
    }

    private static CoatsHall hallWithGuests(int guests) {
        CoatsHall x = Due.withHall("row 12 kind 0 walk 1;");
        for (int g = 0; g < guests; g++) x.guest(g % 4, 0, g, g);
        return x;
    }

    private static void refusals() {
        CoatsHall x = new CoatsHall();
        int[] unknown = {-1, 2, MOST, LEAST};
        for (int i : unknown) {
            Due.is("33: UNKNOWN", x.keep(i), UNKNOWN);
            Due.is("34: UNKNOWN", x.goBack(i), UNKNOWN);
        }
        Due.is("34: not kept", x.goBack(0), NOT);
        Due.is("33: keep(1)", x.keep(1), 1);
        Due.is("34: the other was not kept", x.goBack(0), NOT);
        Due.is("34: goBack(1)", x.goBack(1), 1);
    }

    private static void whatIsKept() {
        CoatsHall x = hallWithGuests(5);
        x.hang(0, 0, 0, 7);
        x.hang(0, 1, 1, 1);
        x.give(2, 1, 0);
        x.claim(2, 0, 1);
        x.claim(3, 0, 0);
        x.night(0, 1, 5, 0, 0);
        Due.is("33: keep(0)", x.keep(0), 1);
        x.guest(3, 2, 9, 9);
        x.grant(0);
        x.lose(0);
        x.night(0, 1, 5, 0, 0);
        x.night(0, 0, 5, 0, 0);
        Due.is("34: goBack(0)", x.goBack(0), 1);
        int[] due = {12, 5, 3, 2, 1, 0};
        for (int what = 0; what <= 5; what++) Due.is("34: count(" + what + ")", x.count(what), due[what]);
        Due.is("34: brass", x.told(0, 4), 7);
        Due.is("34: 1 has 0's", x.told(0, 6), 1);
        Due.is("34: 1's hangs", x.told(1, 5), 1);
        Due.is("34: 2 has nothing", x.told(2, 7), NONE);
        Due.is("34: fits", x.fits(0), 0);
        Due.is("34: fits", x.fits(1), 2);
        Due.is("34: learnt", x.learnt(0, 1, 0), 6000 / 8);
        Due.is("34: learnt", x.learnt(0, 0, 0), 333);
        Due.is("34: guest 5", x.told(5, 0), UNKNOWN);
        Due.is("34: event 3", x.event(3, 0), UNKNOWN);
        Due.is("34: event 2", x.event(2, 1), 2);
        Due.is("34: guest anew", x.guest(1, 1, 1, 1), 5);
        Due.is("34: nothing of the one before", x.told(5, 4), NONE);
        Due.is("34: hung no more", x.hang(0, 4, 4, 4), 3);
        x.goBack(0);
        Due.is("34: it may hang again", x.hang(1, 4, 5, 5), 3);
    }

    /** Two branches from one image differ in all that it keeps: nothing of the one is seen in the other. */
    private static void nothingIsLeftOver() {
        CoatsHall x = Due.withHall("row 6 kind 0 walk 1;row 6 kind 1 walk 1;");
        x.keep(0);
        branch(x, 0, 1);
        x.keep(1);
        x.goBack(0);
        branch(x, 1, 2);
        seen(x, 1, 2);
        x.goBack(1);
        seen(x, 0, 1);
        x.keep(0);
        x.goBack(0);
        seen(x, 0, 1);
    }

    private static void branch(CoatsHall x, int kind, int s) {
        for (int g = 0; g < 4; g++) x.guest(s, kind, 10 * s + g, 16 * s + g);
        for (int g = 0; g < 4; g++) x.hang(s, g, 6 * kind + g, 6 * s + g);
        for (int g = 3; g > 3 - s; g--) x.lose(g);
        for (int g = 3; g > 3 - s; g--) x.claim(g, s == 1 ? 3 : 1, s == 1 ? 4 : 2);
    }

    private static void seen(CoatsHall x, int kind, int s) {
        int[] due = {12, 4, 4 + s, s, 0, 0};
        for (int what = 0; what <= 5; what++) Due.is("34: count(" + what + ")", x.count(what), due[what]);
        for (int g = 0; g < 4; g++) {
            int[] it = {s, kind, 10 * s + g, 16 * s + g, g > 3 - s ? NONE : 6 * s + g, 6 * kind + g, NONE, NONE, 400};
            for (int what = 0; what <= 8; what++) Due.is("34: told(" + g + ", " + what + ")", x.told(g, what), it[what]);
            int[] event = {0, s, g, 6 * kind + g, 6 * s + g, g, 6 * kind == 6 * s ? 0 : 1};
            for (int what = 0; what <= 6; what++) Due.is("34: event(" + g + ", " + what + ")", x.event(g, what), event[what]);
        }
        for (int c = 0; c < s; c++) {
            Due.is("34: fits(" + c + ")", x.fits(c), s == 1 ? 0b1000 : 0b0010);
            Due.is("34: asks(" + c + ")", x.asks(c), 0);
        }
        Due.is("34: has a claim", x.claim(3, 0, 0), NOT);
        Due.is("34: has one of two", x.claim(2, 0, 0), NOT);
    }

    private static void whatIsNotKept() {
        CoatsHall x = hallWithGuests(1);
        x.tonight(0, 0);
        x.keep(0);
        x.tonight(NONE, 0);
        x.feed(2, Due.bytesOf("xx"));
        x.hall();
        x.feed(3, Due.bytesOf("yyy"));
        x.goBack(0);
        Due.is("34: the night is none still", x.told(0, 8), 400);
        Due.is("34: the text stays", x.count(5), 3);
        Due.is("34: the fault stays", x.fault(), 0);
        x.keep(1);
        x.tonight(0, 0);
        x.goBack(1);
        Due.is("34: the night stays", x.told(0, 8), 333 + 666 + 1670);
    }

    private static void imagesStay() {
        CoatsHall x = hallWithGuests(2);
        x.keep(0);
        x.hang(0, 0, 0, 0);
        x.keep(1);
        x.hang(0, 1, 1, 1);
        for (int times = 0; times < 2; times++) {
            Due.is("34: to 0", x.goBack(0), 1);
            Due.is("34: no events", x.count(2), 0);
            x.hang(0, 1, 3, 3);
            Due.is("34: to 1", x.goBack(1), 1);
            Due.is("34: one event", x.count(2), 1);
            Due.is("34: 0's hangs", x.peg(0, 2), 0);
            Due.is("34: 1's does not", x.peg(3, 2), NONE);
            x.give(0, 0, 0);
        }
        x.keep(0);
        x.goBack(1);
        x.goBack(0);
        Due.is("33: kept anew", x.count(2), 2);
    }

    private static void hallToldAnew() {
        CoatsHall x = hallWithGuests(2);
        x.keep(0);
        x.keep(1);
        x.feed(1, 'x');
        Due.is("3: a fault", x.hall(), -11);
        Due.is("34: a fault tells no hall", x.goBack(0), 1);
        x.hang(0, 0, 0, 0);
        Due.is("3: NOT", x.hall(), NOT);
        Due.is("34: nor does what is NOT", x.goBack(1), 1);
        Due.feed(x, "row 12 kind 0 walk 1;");
        Due.is("3: told anew, the same", x.hall(), 12);
        Due.is("34: NOT", x.goBack(0), NOT);
        Due.is("34: NOT", x.goBack(1), NOT);
        Due.is("34: nothing changed", x.count(1), 2);
        Due.is("33: kept again", x.keep(1), 1);
        Due.is("34: 0 is NOT still", x.goBack(0), NOT);
        Due.is("34: 1 is", x.goBack(1), 1);
        x.hall();
        Due.is("34: an empty text tells a hall, too", x.goBack(1), NOT);
    }
}
