import java.util.ArrayList;
import java.util.List;
import java.util.function.Supplier;
import java.util.function.ToLongFunction;

/** All that calls show of what is so: to see that a call changes nothing, or that two ways lead to the same. */
final class Sight {
    private static final int PIECES = 7;

    /** A refused call has this answer, and leaves what every call shows as it is. */
    static void refused(String call, Supplier<CoatsHall> maker, ToLongFunction<CoatsHall> refusal, long due) {
        Due.is(call, refusal.applyAsLong(maker.get()), due);
        same("what is shown after " + call, () -> {
            CoatsHall x = maker.get();
            refusal.applyAsLong(x);
            return x;
        }, maker);
    }

    static void same(String what, Supplier<CoatsHall> one, Supplier<CoatsHall> other) {
        for (int piece = 0; piece < PIECES; piece++) {
            List<Long> got = of(one.get(), piece), due = of(other.get(), piece);
            Due.is(what + ", how many answers of piece " + piece, got.size(), due.size());
            for (int i = 0; i < Math.min(got.size(), due.size()); i++) {
                Due.is(what + ", answer " + i + " of piece " + piece, got.get(i), due.get(i));
            }
        }
    }

    /** An object answers what it likes after 512 calls: so each piece is asked of a new one. */
    private static List<Long> of(CoatsHall x, int piece) {
        List<Long> seen = new ArrayList<>();
        switch (piece) {
            case 0 -> hall(x, seen);
            case 1 -> guests(x, seen);
            case 2 -> events(x, seen);
            case 3 -> chains(x, seen);
            case 4 -> claims(x, seen);
            case 5 -> text(x, seen);
            default -> images(x, seen);
        }
        return seen;
    }

    private static void hall(CoatsHall x, List<Long> seen) {
        for (int what = 0; what <= 10; what++) seen.add((long) x.count(what));
        for (int p = 0; p < 24; p++) for (int what = 0; what <= 2; what++) seen.add((long) x.peg(p, what));
        for (int sort = 0; sort < 4; sort++) for (int what = 0; what < 3; what++) seen.add((long) x.odds(sort, what));
        for (int play = 0; play < 4; play++) {
            for (int weather = 0; weather < 2; weather++) {
                for (int what = 0; what < 3; what++) seen.add((long) x.learnt(play, weather, what));
            }
        }
        seen.add((long) x.fault());
    }

    private static void guests(CoatsHall x, List<Long> seen) {
        for (int g = 0; g < 16; g++) for (int what = 0; what <= 8; what++) seen.add((long) x.told(g, what));
        for (int g = -1; g < 16; g++) {
            seen.add((long) x.plan(false, g));
            seen.add((long) x.plan(true, g));
        }
        for (int w = 0; w < 300; w += 20) seen.add((long) x.wanted(hanging(x), w));
        for (int n = 1; n <= 4; n++) for (int what = 0; what <= 2; what++) seen.add((long) x.rush(hanging(x), n, what));
    }

    private static int hanging(CoatsHall x) {
        int set = 0;
        for (int g = 0; g < 4; g++) if (x.told(g, 5) >= 0) set |= 1 << g;
        return set;
    }

    private static void events(CoatsHall x, List<Long> seen) {
        for (int e = 0; e < 33; e++) for (int what = 0; what <= 6; what++) seen.add((long) x.event(e, what));
        for (int g = 0; g < 16; g++) for (int what = 0; what <= 1; what++) seen.add((long) x.wrong(g, what));
    }

    private static void chains(CoatsHall x, List<Long> seen) {
        seen.add((long) x.astray());
        seen.add((long) x.exchanges());
        for (int g = 0; g < 16; g++) seen.add((long) x.ring(g));
        for (int g = 0; g < 16; g++) for (int i = -1; i < 12; i++) seen.add((long) x.chain(g, i));
    }

    private static void claims(CoatsHall x, List<Long> seen) {
        seen.add(x.ways());
        for (int c = 0; c < 6; c++) {
            seen.add((long) x.fits(c));
            seen.add((long) x.sure(c));
            seen.add((long) x.asks(c));
        }
        // Whose the claims are shows in what is given.
        for (int c = 5; c >= 0; c--) seen.add((long) x.grant(c));
        for (int g = 0; g < 16; g++) seen.add((long) x.told(g, 7));
    }

    private static void text(CoatsHall x, List<Long> seen) {
        x.goBack(0);
        seen.add((long) x.hall());
        hall(x, seen);
    }

    private static void images(CoatsHall x, List<Long> seen) {
        for (int i = 1; i >= 0; i--) {
            seen.add((long) x.goBack(i));
            for (int what = 0; what <= 10; what++) seen.add((long) x.count(what));
            for (int g = 0; g < 16; g++) for (int what = 4; what <= 8; what++) seen.add((long) x.told(g, what));
            for (int c = 0; c < 6; c++) seen.add((long) x.fits(c));
            seen.add((long) x.event(x.count(2) - 1, 2));
        }
    }
}
