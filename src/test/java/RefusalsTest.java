import java.util.function.Supplier;
import java.util.function.ToLongFunction;

/** REFUSALS: each call's, in their order, and that what is refused changes nothing. */
public final class RefusalsTest {
    private static final int NONE = -1, UNKNOWN = -1001, OUTSIDE = -1002, NOT = -1003, FULL = -1004;
    private static final int LEAST = Integer.MIN_VALUE, MOST = Integer.MAX_VALUE;
    /** Of the evening: 0, 1, 3, 4, 5, 9, 10, 13. */
    private static final int EIGHT_HANG = 0b10011000111011;
    private static Supplier<CoatsHall> state = CoatsHall::new;

    public static void main(String[] args) {
        nothingYet();
        anEvening();
        eveningEvents();
        eveningClaims();
        allFull();
        unknownFirst();
        outsideBeforeNotAndFull();
        notBeforeFull();
        Due.end();
    }

    private static void refused(String call, ToLongFunction<CoatsHall> refusal, long due) {
        Sight.refused(call, state, refusal, due);
    }

    private static void nothingYet() {
        Due.says("REFUSALS: What is refused changes nothing (a new object)");
        state = CoatsHall::new;
        refused("feed(0, 0)", x -> x.feed(0, 0L), OUTSIDE);
        refused("feed(9, 0)", x -> x.feed(9, 0L), OUTSIDE);
        refused("peg(0, 0)", x -> x.peg(0, 0), UNKNOWN);
        refused("odds(4, 0)", x -> x.odds(4, 0), OUTSIDE);
        refused("count(11)", x -> x.count(11), OUTSIDE);
        refused("guest(4, ..)", x -> x.guest(4, 0, 0, 0), OUTSIDE);
        refused("told(0, 0)", x -> x.told(0, 0), UNKNOWN);
        refused("plan(false, 0)", x -> x.plan(false, 0), UNKNOWN);
        refused("night(4, ..)", x -> x.night(4, 0, 0, 0, 0), OUTSIDE);
        refused("learnt(4, 0, 0)", x -> x.learnt(4, 0, 0), OUTSIDE);
        refused("tonight(4, 0)", x -> x.tonight(4, 0), OUTSIDE);
        refused("hang(0, 0, 0, 0)", x -> x.hang(0, 0, 0, 0), UNKNOWN);
        refused("give(0, 0, 0)", x -> x.give(0, 0, 0), UNKNOWN);
        refused("lose(0)", x -> x.lose(0), UNKNOWN);
        refused("event(0, 0)", x -> x.event(0, 0), UNKNOWN);
        refused("chain(0, 0)", x -> x.chain(0, 0), UNKNOWN);
        refused("ring(0)", x -> x.ring(0), UNKNOWN);
        refused("wrong(0, 0)", x -> x.wrong(0, 0), UNKNOWN);
        refused("rush(1, 1, 0)", x -> x.rush(1, 1, 0), UNKNOWN);
        refused("rush(0, 0, 0)", x -> x.rush(0, 0, 0), OUTSIDE);
        refused("bestRow(1, 1, 0)", x -> x.bestRow(1, 1, 0), UNKNOWN);
        refused("wanted(1, 0)", x -> x.wanted(1, 0), UNKNOWN);
        refused("claim(0, 0, 0)", x -> x.claim(0, 0, 0), UNKNOWN);
        refused("fits(0)", x -> x.fits(0), UNKNOWN);
        refused("sure(0)", x -> x.sure(0), UNKNOWN);
        refused("grant(0)", x -> x.grant(0), UNKNOWN);
        refused("apart(0, 0)", x -> x.apart(0, 0), UNKNOWN);
        refused("asks(0)", x -> x.asks(0), UNKNOWN);
        refused("keep(2)", x -> x.keep(2), UNKNOWN);
        refused("goBack(2)", x -> x.goBack(2), UNKNOWN);
        refused("goBack(0)", x -> x.goBack(0), NOT);
    }

    /**
     * Pegs 0 to 9 dry, 10 to 17 wet, 18 to 23 for hats. Guests 0 to 8 dry, 9 to 12 wet, 13 a hat. 0 and 3 have brass,
     * 1 has 2's, 4 and 5 have lost theirs and claim, 6 claims and has hung nothing, 7 and 8 have hung nothing.
     */
    private static CoatsHall evening() {
        CoatsHall x = Due.withHall("row 10 kind 0 walk 3;row 8 kind 1 walk 1;row 6 kind 2 walk 99;odds 1 60 30 10;weights 1 2 6;give 3;less 2;");
        for (int g = 0; g < 14; g++) x.guest(g % 4, g < 9 ? 0 : g < 13 ? 1 : 2, 6 * g, 17 * g);
        x.night(0, 1, 3, 4, 5);
        x.night(3, 0, 999, 0, 7);
        x.tonight(0, 1);
        x.keep(0);
        int[][] hangings = {{0, 0, 0}, {1, 1, 2}, {2, 2, 1}, {3, 3, 3}, {4, 4, 4}, {5, 5, 23}, {9, 10, 10}, {10, 11, 11}, {13, 18, 18}};
        for (int[] h : hangings) Due.is("hang of " + h[0], Math.min(x.hang(h[0] % 4, h[0], h[1], h[2]), 0), 0);
        Due.is("give", x.give(2, 1, 2), 9);
        x.lose(4);
        x.lose(5);
        Due.is("claim 0", x.claim(4, 64, 1), 0);
        Due.is("claim 1", x.claim(5, 0, 2), 1);
        Due.is("claim 2", x.claim(6, 1, 0), 2);
        Due.feed(x, "give 9");
        return x;
    }

    private static void anEvening() {
        Due.says("REFUSALS: What is refused changes nothing (an evening)");
        state = RefusalsTest::evening;
        for (int n : new int[] {0, 9, -1, LEAST, MOST}) refused("feed(" + n + ")", x -> x.feed(n, ';'), OUTSIDE);
        refused("hall()", CoatsHall::hall, NOT);
        for (int p : new int[] {24, -1, LEAST, MOST}) refused("peg(" + p + ")", x -> x.peg(p, 0), UNKNOWN);
        for (int what : new int[] {3, -1, LEAST, MOST}) refused("peg what " + what, x -> x.peg(0, what), OUTSIDE);
        for (int sort : new int[] {4, -1, LEAST, MOST}) refused("odds of " + sort, x -> x.odds(sort, 0), OUTSIDE);
        for (int what : new int[] {3, -1, LEAST, MOST}) refused("odds what " + what, x -> x.odds(0, what), OUTSIDE);
        for (int what : new int[] {11, -1, LEAST, MOST}) refused("count(" + what + ")", x -> x.count(what), OUTSIDE);
        for (int bad : new int[] {4, -1}) refused("guest of sort " + bad, x -> x.guest(bad, 0, 0, 0), OUTSIDE);
        for (int bad : new int[] {3, -1}) refused("guest of kind " + bad, x -> x.guest(0, bad, 0, 0), OUTSIDE);
        for (int bad : new int[] {100, -1}) refused("guest with tip " + bad, x -> x.guest(0, 0, bad, 0), OUTSIDE);
        for (int bad : new int[] {256, -1}) refused("guest with marks " + bad, x -> x.guest(0, 0, 0, bad), OUTSIDE);
        for (int g : new int[] {14, -1, 16, LEAST, MOST}) refused("told(" + g + ")", x -> x.told(g, 0), UNKNOWN);
        for (int what : new int[] {9, -1, LEAST, MOST}) refused("told what " + what, x -> x.told(0, what), OUTSIDE);
        for (int g : new int[] {14, -2, LEAST, MOST}) {
            refused("plan of " + g, x -> x.plan(false, g), UNKNOWN);
            refused("habit of " + g, x -> x.plan(true, g), UNKNOWN);
        }
        int[][] nights = {{4, 0, 1, 1, 1}, {-1, 0, 1, 1, 1}, {0, 2, 1, 1, 1}, {0, -1, 1, 1, 1}, {0, 0, 1000, 1, 1}, {0, 0, -1, 1, 1},
            {0, 0, 1, 1000, 1}, {0, 0, 1, -1, 1}, {0, 0, 1, 1, 1000}, {0, 0, 1, 1, -1}};
        for (int[] n : nights) refused("night", x -> x.night(n[0], n[1], n[2], n[3], n[4]), OUTSIDE);
        int[][] learnt = {{4, 0, 0}, {-1, 0, 0}, {0, 2, 0}, {0, -1, 0}, {0, 0, 3}, {0, 0, -1}};
        for (int[] n : learnt) refused("learnt", x -> x.learnt(n[0], n[1], n[2]), OUTSIDE);
        int[][] tonight = {{4, 0}, {-2, 0}, {3, 2}, {3, -1}, {LEAST, 0}, {0, MOST}};
        for (int[] n : tonight) refused("tonight", x -> x.tonight(n[0], n[1]), OUTSIDE);
        refused("keep(2)", x -> x.keep(2), UNKNOWN);
        refused("keep(-1)", x -> x.keep(-1), UNKNOWN);
        refused("goBack(2)", x -> x.goBack(2), UNKNOWN);
        refused("goBack(-1)", x -> x.goBack(-1), UNKNOWN);
        refused("goBack(1)", x -> x.goBack(1), NOT);
    }

    private static void eveningEvents() {
        Due.says("REFUSALS: What is refused changes nothing (events and the rush)");
        state = RefusalsTest::evening;
        int[][] unknown = {{4, 7, 6, 6}, {-1, 7, 6, 6}, {0, 14, 6, 6}, {0, -1, 6, 6}, {0, 7, 24, 6}, {0, 7, -1, 6}};
        for (int[] h : unknown) refused("hang", x -> x.hang(h[0], h[1], h[2], h[3]), UNKNOWN);
        for (int brass : new int[] {24, -1, LEAST, MOST}) refused("hang for " + brass, x -> x.hang(0, 7, 6, brass), OUTSIDE);
        refused("hang: hung already", x -> x.hang(0, 0, 6, 6), NOT);
        refused("hang: hung, and somebody has it", x -> x.hang(0, 2, 6, 6), NOT);
        refused("hang: a claim", x -> x.hang(0, 6, 6, 6), NOT);
        refused("hang: another kind", x -> x.hang(0, 7, 12, 6), NOT);
        refused("hang: not free", x -> x.hang(0, 7, 0, 6), NOT);
        refused("hang: some guest's brass", x -> x.hang(0, 7, 6, 3), NOT);
        int[][] unknownGivings = {{4, 0, 0}, {-1, 0, 0}, {0, 14, 0}, {0, -1, 0}, {0, 0, 24}, {0, 0, -1}};
        for (int[] n : unknownGivings) refused("give", x -> x.give(n[0], n[1], n[2]), UNKNOWN);
        refused("give: no brass", x -> x.give(0, 7, 0), NOT);
        refused("give: has something", x -> x.give(0, 1, 0), NOT);
        refused("give: nothing hangs there", x -> x.give(0, 0, 2), NOT);
        for (int g : new int[] {14, -1, LEAST, MOST}) {
            refused("lose(" + g + ")", x -> x.lose(g), UNKNOWN);
            refused("chain(" + g + ")", x -> x.chain(g, 0), UNKNOWN);
            refused("ring(" + g + ")", x -> x.ring(g), UNKNOWN);
            refused("wrong(" + g + ")", x -> x.wrong(g, 0), UNKNOWN);
        }
        refused("lose: no brass", x -> x.lose(4), NOT);
        for (int e : new int[] {12, -1, 60, LEAST, MOST}) refused("event(" + e + ")", x -> x.event(e, 0), UNKNOWN);
        for (int what : new int[] {7, -1, LEAST, MOST}) refused("event what " + what, x -> x.event(0, what), OUTSIDE);
        refused("chain: not astray", x -> x.chain(0, NONE), NOT);
        refused("ring: not astray", x -> x.ring(2), NOT);
        for (int what : new int[] {2, -1, LEAST, MOST}) refused("wrong what " + what, x -> x.wrong(0, what), OUTSIDE);
        for (int set : new int[] {1 << 14, 1 << 2, 1 << 7, LEAST, -1}) {
            refused("rush of " + set, x -> x.rush(set, 1, 0), UNKNOWN);
            refused("bestRow of " + set, x -> x.bestRow(set, 1, 0), UNKNOWN);
            refused("wanted for " + set, x -> x.wanted(set, 0), UNKNOWN);
        }
        for (int n : new int[] {0, 5, -1, LEAST, MOST}) {
            refused("rush with " + n, x -> x.rush(1, n, 0), OUTSIDE);
            refused("bestRow with " + n, x -> x.bestRow(1, n, 0), OUTSIDE);
        }
        for (int what : new int[] {3, -1, LEAST, MOST}) refused("rush what " + what, x -> x.rush(1, 1, what), OUTSIDE);
        for (int w : new int[] {-1, 10000, LEAST, MOST}) refused("wanted within " + w, x -> x.wanted(1, w), OUTSIDE);
        refused("bestRow of nine, 2's does not hang", x -> x.bestRow(EIGHT_HANG | 1 << 2, 1, 0), UNKNOWN);
        refused("bestRow of eight that hang", x -> x.bestRow(EIGHT_HANG, 1, 0), NOT);
    }

    private static void eveningClaims() {
        Due.says("REFUSALS: What is refused changes nothing (claims)");
        state = RefusalsTest::evening;
        for (int g : new int[] {14, -1, LEAST, MOST}) {
            refused("claim of " + g, x -> x.claim(g, 0, 0), UNKNOWN);
            refused("apart(" + g + ", 0)", x -> x.apart(g, 0), UNKNOWN);
            refused("apart(0, " + g + ")", x -> x.apart(0, g), UNKNOWN);
        }
        int[][] outside = {{256, 0}, {-1, 0}, {0, 256}, {0, -1}, {1, 1}, {255, 128}, {LEAST, 0}, {0, MOST}};
        for (int[] marks : outside) refused("claim with " + marks[0] + ", " + marks[1], x -> x.claim(7, marks[0], marks[1]), OUTSIDE);
        refused("claim: has brass", x -> x.claim(0, 0, 0), NOT);
        refused("claim: has something", x -> x.claim(1, 0, 0), NOT);
        refused("claim: has one already", x -> x.claim(6, 0, 0), NOT);
        for (int c : new int[] {3, -1, 6, LEAST, MOST}) {
            refused("fits(" + c + ")", x -> x.fits(c), UNKNOWN);
            refused("sure(" + c + ")", x -> x.sure(c), UNKNOWN);
            refused("grant(" + c + ")", x -> x.grant(c), UNKNOWN);
            refused("asks(" + c + ")", x -> x.asks(c), UNKNOWN);
        }
        refused("grant: nothing is sure", x -> x.grant(1), NOT);
    }

    /** Sixteen guests, sixty nights, six claims, 240 bytes. */
    private static CoatsHall full() {
        CoatsHall x = Due.withHall("row 24 kind 0 walk 0;");
        for (int g = 0; g < 16; g++) x.guest(g % 4, 0, g, g);
        for (int n = 0; n < 60; n++) x.night(n % 4, n % 2, n, n, n);
        for (int g = 0; g < 6; g++) x.claim(g, g, 0);
        for (int g = 10; g < 13; g++) x.hang(1, g, g, g);
        for (int i = 0; i < 30; i++) x.feed(8, 0x2020202020202020L);
        return x;
    }

    private static void allFull() {
        Due.says("REFUSALS: FULL; What is refused changes nothing");
        state = RefusalsTest::full;
        for (int n = 1; n <= 8; n++) {
            int bytes = n;
            refused("feed(" + n + ")", x -> x.feed(bytes, -1L), FULL);
        }
        refused("guest", x -> x.guest(1, 2, 3, 4), FULL);
        refused("night", x -> x.night(1, 1, 1, 1, 1), FULL);
        refused("claim", x -> x.claim(6, 1, 2), FULL);
    }

    private static void unknownFirst() {
        Due.says("REFUSALS, of several the first in this order: UNKNOWN, ..");
        state = RefusalsTest::evening;
        refused("peg(24, 3)", x -> x.peg(24, 3), UNKNOWN);
        refused("told(14, 9)", x -> x.told(14, 9), UNKNOWN);
        refused("hang: no such hand, brass 24", x -> x.hang(4, 7, 6, 24), UNKNOWN);
        refused("hang: no such guest, brass 24", x -> x.hang(0, 14, 6, 24), UNKNOWN);
        refused("hang: no such peg, brass 24", x -> x.hang(0, 7, 24, 24), UNKNOWN);
        refused("hang: no such hand, hung already", x -> x.hang(4, 0, 6, 6), UNKNOWN);
        refused("hang: no such guest, not free", x -> x.hang(0, 14, 0, 6), UNKNOWN);
        refused("hang: no such peg, some guest's brass", x -> x.hang(0, 7, 24, 3), UNKNOWN);
        refused("give: no such hand, no brass", x -> x.give(4, 7, 0), UNKNOWN);
        refused("give: no such guest, nothing there", x -> x.give(0, 14, 2), UNKNOWN);
        refused("give: no such peg, has something", x -> x.give(0, 1, 24), UNKNOWN);
        refused("event(12, 7)", x -> x.event(12, 7), UNKNOWN);
        refused("wrong(14, 2)", x -> x.wrong(14, 2), UNKNOWN);
        refused("rush: not hanging, no hand", x -> x.rush(1 << 7, 0, 0), UNKNOWN);
        refused("rush: not hanging, what 3", x -> x.rush(1 << 7, 1, 3), UNKNOWN);
        refused("bestRow: not hanging, no hand", x -> x.bestRow(1 << 7, 0, 0), UNKNOWN);
        refused("bestRow: not hanging, and too many", x -> x.bestRow(0xffff, 1, 0), UNKNOWN);
        refused("wanted: not hanging, w 10000", x -> x.wanted(1 << 7, 10000), UNKNOWN);
        refused("claim: no such guest, marks 256", x -> x.claim(14, 256, 0), UNKNOWN);
        refused("goBack(2), never kept", x -> x.goBack(2), UNKNOWN);
        state = RefusalsTest::full;
        refused("claim: no such guest, full", x -> x.claim(16, 0, 0), UNKNOWN);
        state = CoatsHall::new;
        refused("peg(0, 9)", x -> x.peg(0, 9), UNKNOWN);
    }

    private static void outsideBeforeNotAndFull() {
        Due.says("REFUSALS, of several the first in this order: .. OUTSIDE, ..");
        state = RefusalsTest::evening;
        refused("hang: brass 24, hung already", x -> x.hang(0, 0, 6, 24), OUTSIDE);
        refused("hang: brass -1, a claim", x -> x.hang(0, 6, 6, -1), OUTSIDE);
        refused("hang: brass 24, another kind", x -> x.hang(0, 7, 12, 24), OUTSIDE);
        refused("hang: brass 24, not free", x -> x.hang(0, 7, 0, 24), OUTSIDE);
        refused("bestRow: no hand, eight", x -> x.bestRow(EIGHT_HANG, 0, 0), OUTSIDE);
        refused("claim: marks in both, brass", x -> x.claim(0, 3, 6), OUTSIDE);
        refused("claim: marks 256, has something", x -> x.claim(1, 256, 0), OUTSIDE);
        refused("claim: marks -1, has one", x -> x.claim(6, 0, -1), OUTSIDE);
        state = RefusalsTest::full;
        refused("feed(0) behind 240", x -> x.feed(0, 0L), OUTSIDE);
        refused("feed(9) behind 240", x -> x.feed(9, 0L), OUTSIDE);
        refused("guest of sort 4 behind 16", x -> x.guest(4, 0, 0, 0), OUTSIDE);
        refused("guest of kind 3 behind 16", x -> x.guest(0, 3, 0, 0), OUTSIDE);
        refused("guest with tip 100 behind 16", x -> x.guest(0, 0, 100, 0), OUTSIDE);
        refused("guest with marks 256 behind 16", x -> x.guest(0, 0, 0, 256), OUTSIDE);
        for (int play : new int[] {4, -1}) refused("night of play " + play + " behind 60", x -> x.night(play, 0, 0, 0, 0), OUTSIDE);
        for (int weather : new int[] {2, -1}) refused("night of weather " + weather + " behind 60", x -> x.night(0, weather, 0, 0, 0), OUTSIDE);
        for (int left : new int[] {1000, -1}) refused("night with " + left + " behind 60", x -> x.night(0, 0, 0, 0, left), OUTSIDE);
        refused("claim with marks 256 behind 6", x -> x.claim(6, 256, 0), OUTSIDE);
        refused("claim with marks in both behind 6", x -> x.claim(6, 1, 1), OUTSIDE);
    }

    private static void notBeforeFull() {
        Due.says("REFUSALS, of several the first in this order: .. NOT, FULL");
        state = RefusalsTest::full;
        refused("claim: brass, behind 6", x -> x.claim(10, 0, 0), NOT);
        refused("claim: has one, behind 6", x -> x.claim(5, 0, 0), NOT);
        state = () -> {
            CoatsHall x = full();
            x.give(0, 10, 11);
            return x;
        };
        refused("claim: has something, behind 6", x -> x.claim(10, 0, 0), NOT);
    }
}
