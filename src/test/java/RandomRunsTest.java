import java.util.ArrayList;
import java.util.List;
import java.util.Random;

/** Long runs of mixed calls, the same each time, beside the plain Model: every answer and, at the end, what can be seen. */
public final class RandomRunsTest {
    private static final int RUNS = 5000, PROMISED = 512, SIGHTS = 4;
    private final Random dice;
    private CoatsHall x = new CoatsHall();
    private Model m = new Model();
    private int run;
    private int calls;

    private RandomRunsTest(long seed) {
        dice = new Random(seed);
    }

    public static void main(String[] args) {
        RandomRunsTest t = new RandomRunsTest(20261119L);
        for (t.run = 0; t.run < RUNS; t.run++) t.oneRun();
        t.texts();
        Due.end();
    }

    private int upTo(int n) {
        return dice.nextInt(n);
    }

    private boolean rarely(int n) {
        return dice.nextInt(n) == 0;
    }

    /** Mostly within 0 .. n-1, at times a bit or far out. */
    private int near(int n) {
        if (rarely(40)) return new int[] {-2, -1, n, n + 1, Integer.MAX_VALUE, Integer.MIN_VALUE}[upTo(6)];
        return n <= 0 ? 0 : upTo(n);
    }

    private void fresh() {
        x = new CoatsHall();
        m = new Model();
        calls = 0;
    }

    /** Asked before each call: nothing is promised of an object after its 512th. */
    private boolean may() {
        return calls++ < PROMISED;
    }

    private void is(String call, long got, long want) {
        Due.is("run " + run + ": " + call, got, want);
    }

    private void feedText(String text) {
        for (int i = 0; i < text.length(); ) {
            int n = Math.min(text.length() - i, 1 + upTo(8));
            long bytes = Due.bytesOf(text.substring(i, i + n));
            if (n < 8 && rarely(2)) bytes |= dice.nextLong() << 8 * n;
            if (may()) is("feed", x.feed(n, bytes), m.feed(n, bytes));
            i += n;
        }
    }

    private String goodText() {
        StringBuilder text = new StringBuilder();
        int pegs = 0;
        for (int rows = 1 + upTo(4); rows > 0 && pegs < 24; rows--) {
            int n = 1 + upTo(Math.min(12, 24 - pegs));
            pegs += n;
            text.append("row ").append(n).append(" kind ").append(rarely(2) ? 0 : upTo(3));
            text.append(" walk ").append(rarely(4) ? upTo(100) : upTo(12)).append(";");
        }
        for (int sort = 0; sort < 4; sort++) {
            if (rarely(2)) continue;
            int a = upTo(101), b = upTo(101 - a);
            text.append("odds ").append(sort).append(' ').append(a).append(' ').append(b).append(' ').append(100 - a - b).append("; ");
        }
        if (rarely(2)) text.append("weights ").append(upTo(10)).append(' ').append(upTo(10)).append("  ").append(upTo(10)).append(";");
        if (rarely(2)) text.append("give ").append(upTo(21)).append(" ;");
        if (rarely(2)) text.append("less").append(upTo(21)).append(";");
        return text.length() > 240 ? "row24kind0walk3;" : text.toString();
    }

    private void sameHall() {
        if (may()) is("hall()", x.hall(), m.hall());
        if (may()) is("fault()", x.fault(), m.fault());
    }

    private void oneRun() {
        fresh();
        if (!rarely(8)) {
            feedText(goodText());
            sameHall();
        }
        int style = upTo(4), questions = upTo(4), sceneEnds = 100 + upTo(PROMISED - 100);
        for (int guests = upTo(17); guests > 0; guests--) oneGuest(style);
        while (calls < sceneEnds) {
            if (upTo(6) < questions) oneQuestion();
            else oneDeed(style);
        }
        int first = upTo(SIGHTS);
        for (int k = 0; k < SIGHTS; k++) sight((first + k) % SIGHTS);
    }

    private void oneGuest(int style) {
        int sort = near(4), kind = style == 0 ? 0 : near(3), tip = near(100), marks = style < 2 ? near(8) : near(256);
        if (may()) is("guest", x.guest(sort, kind, tip, marks), m.guest(sort, kind, tip, marks));
    }

    private void oneDeed(int style) {
        int guests = m.s.guests.size();
        switch (upTo(16)) {
            case 0: if (rarely(6)) oneGuest(style); break;
            case 1: if (rarely(6)) { feedText(goodText()); sameHall(); } break;
            case 2: case 3: case 4: case 5: hang(); break;
            case 6: case 7: give(); break;
            case 8: if (rarely(2)) { int g = near(guests); if (may()) is("lose", x.lose(g), m.lose(g)); } break;
            case 9: case 10: claim(style); break;
            case 11: { int c = near(m.s.claims.size()); if (may()) is("grant", x.grant(c), m.grant(c)); } break;
            case 12: night(); break;
            case 13: if (rarely(3)) { int p = near(5) - 1, w = near(2); if (may()) is("tonight", x.tonight(p, w), m.tonight(p, w)); } break;
            case 14: if (rarely(3)) { int i = near(2); if (may()) is("keep", x.keep(i), m.keep(i)); } break;
            default: if (rarely(3)) { int i = near(2); if (may()) is("goBack", x.goBack(i), m.goBack(i)); } break;
        }
    }

    private void oneQuestion() {
        int guests = m.s.guests.size();
        switch (upTo(16)) {
            case 0: case 1: { int g = near(guests + 1) - 1; boolean h = rarely(2); if (may()) is("plan", x.plan(h, g), m.plan(h, g)); } break;
            case 2: case 3: rush(); break;
            case 4: bestRow(); break;
            case 5: wanted(); break;
            case 6: case 7: claims(); break;
            case 8: case 9: chains(); break;
            case 10: { int g = near(guests), w = near(2); if (may()) is("wrong", x.wrong(g, w), m.wrong(g, w)); } break;
            case 11: { int e = near(m.s.events.size()), w = near(7); if (may()) is("event", x.event(e, w), m.event(e, w)); } break;
            case 12: { int g = near(guests), w = near(9); if (may()) is("told", x.told(g, w), m.told(g, w)); } break;
            case 13: { int p = near(m.pegs.size()), w = near(3); if (may()) is("peg", x.peg(p, w), m.peg(p, w)); } break;
            case 14: { int p = near(4), e = near(2), w = near(3); if (may()) is("learnt", x.learnt(p, e, w), m.learnt(p, e, w)); } break;
            default: { int s = near(4), w = near(3), c = near(11); if (may()) is("odds", x.odds(s, w), m.odds(s, w)); if (may()) is("count", x.count(c), m.count(c)); } break;
        }
    }

    private void hang() {
        int hand = near(4), g = near(m.s.guests.size()), p = near(m.pegs.size());
        for (int tries = 0; tries < 20 && m.peg(p, 0) != m.told(g, 1); tries++) p = near(m.pegs.size());
        int brass = rarely(3) ? near(24) : p;
        if (may()) is("hang", x.hang(hand, g, p, brass), m.hang(hand, g, p, brass));
    }

    private void give() {
        if (rarely(3)) return;
        int hand = near(4), g = near(m.s.guests.size()), p = near(m.pegs.size());
        for (int tries = 0; tries < 20 && (m.told(g, 4) < 0 || m.told(g, 7) >= 0); tries++) g = near(m.s.guests.size());
        if (rarely(2)) p = m.told(g, 4);
        for (int tries = 0; tries < 10 && m.peg(p, 2) < 0; tries++) p = near(m.pegs.size());
        if (may()) is("give", x.give(hand, g, p), m.give(hand, g, p));
    }

    private void claim(int style) {
        int g = near(m.s.guests.size());
        int marks = m.noGuestHas(g) ? 0 : m.told(g, 3);
        int most = style < 2 ? 7 : 255;
        int yes = rarely(6) ? near(256) : marks & upTo(256) & upTo(256);
        int no = rarely(6) ? near(256) : ~marks & most & upTo(256) & upTo(256);
        if (may()) is("claim", x.claim(g, yes, no), m.claim(g, yes, no));
        claims();
    }

    private void claims() {
        int c = near(m.s.claims.size());
        int g = near(m.s.guests.size()), h = near(m.s.guests.size());
        if (may()) is("fits", x.fits(c), m.fits(c));
        if (may()) is("asks", x.asks(c), m.asks(c));
        if (may()) is("apart", x.apart(g, h), m.apart(g, h));
        if (fewWays() && may()) is("ways", x.ways(), m.ways());
        if (fewWays() && may()) is("sure", x.sure(c), m.sure(c));
    }

    /** The model goes through every way, so there must not be too many. */
    private boolean fewWays() {
        long most = 1;
        for (int c = 0; c < m.s.claims.size(); c++) most *= Math.max(1, Integer.bitCount(m.fits(c)));
        return most < 20000;
    }

    private void night() {
        int play = near(4), weather = near(2), early = night0(), pause = night0(), end = night0();
        if (may()) is("night", x.night(play, weather, early, pause, end), m.night(play, weather, early, pause, end));
    }

    private int night0() {
        return rarely(3) ? near(1000) : near(10);
    }

    private int hangingSet(int most) {
        List<Integer> hanging = new ArrayList<>();
        for (int g = 0; g < m.s.guests.size(); g++) if (m.told(g, 5) != Model.NONE) hanging.add(g);
        int set = 0;
        for (int k = upTo(most + 1); k > 0 && !hanging.isEmpty(); k--) set |= 1 << hanging.remove(upTo(hanging.size()));
        return rarely(40) ? set | 1 << upTo(32) : set;
    }

    private void rush() {
        int set = hangingSet(16), n = 1 + near(4), what = near(3);
        if (may()) is("rush", x.rush(set, n, what), m.rush(set, n, what));
    }

    private void bestRow() {
        int set = hangingSet(rarely(10) ? 8 : rarely(10) ? 7 : 5), n = 1 + near(4);
        int size = Integer.bitCount(set);
        int least = size <= 5 ? -2 : near(size), most = size <= 5 ? size : least;
        for (int i = least; i <= most; i++) if (may()) is("bestRow", x.bestRow(set, n, i), m.bestRow(set, n, i));
    }

    private void wanted() {
        int set = hangingSet(16), w = rarely(10) ? near(10000) : upTo(400);
        if (may()) is("wanted", x.wanted(set, w), m.wanted(set, w));
    }

    private void chains() {
        if (may()) is("astray", x.astray(), m.astray());
        if (may()) is("exchanges", x.exchanges(), m.exchanges());
        int g = near(m.s.guests.size()), i = near(6) - 1;
        if (may()) is("chain", x.chain(g, i), m.chain(g, i));
        if (may()) is("ring", x.ring(g), m.ring(g));
    }

    private void sight(int part) {
        switch (part) {
            case 0: hallSeen(); break;
            case 1: guestsSeen(); break;
            case 2: eventsAndClaimsSeen(); break;
            default: chainsSeen(); break;
        }
    }

    private void hallSeen() {
        for (int c = -1; c <= 11; c++) if (may()) is("count", x.count(c), m.count(c));
        for (int p = -1; p <= m.pegs.size(); p++) for (int w = -1; w <= 3; w++) if (may()) is("peg", x.peg(p, w), m.peg(p, w));
        for (int s = -1; s <= 4; s++) for (int w = -1; w <= 3; w++) if (may()) is("odds", x.odds(s, w), m.odds(s, w));
        for (int p = -1; p <= 4; p++) {
            for (int e = -1; e <= 2; e++) for (int w = -1; w <= 3; w++) if (may()) is("learnt", x.learnt(p, e, w), m.learnt(p, e, w));
        }
    }

    private void guestsSeen() {
        for (int g = -2; g <= m.s.guests.size(); g++) {
            if (may()) is("plan", x.plan(false, g), m.plan(false, g));
            if (may()) is("habit", x.plan(true, g), m.plan(true, g));
            for (int w = -1; w <= 9; w++) if (may()) is("told", x.told(g, w), m.told(g, w));
            for (int w = -1; w <= 2; w++) if (may()) is("wrong", x.wrong(g, w), m.wrong(g, w));
        }
    }

    private void eventsAndClaimsSeen() {
        if (fewWays() && may()) is("ways", x.ways(), m.ways());
        for (int c = -1; c <= m.s.claims.size(); c++) {
            if (may()) is("fits", x.fits(c), m.fits(c));
            if (may()) is("asks", x.asks(c), m.asks(c));
            if (fewWays() && may()) is("sure", x.sure(c), m.sure(c));
        }
        for (int e = -1; e <= m.s.events.size(); e++) for (int w = -1; w <= 7; w++) if (may()) is("event", x.event(e, w), m.event(e, w));
    }

    private void chainsSeen() {
        if (may()) is("astray", x.astray(), m.astray());
        if (may()) is("exchanges", x.exchanges(), m.exchanges());
        for (int g = -1; g <= m.s.guests.size(); g++) {
            if (may()) is("ring", x.ring(g), m.ring(g));
            for (int i = -2; i <= m.s.guests.size(); i++) if (may()) is("chain", x.chain(g, i), m.chain(g, i));
        }
    }

    /** Good texts with a byte or two spoiled, and parts put together without plan. */
    private void texts() {
        String[] parts = {"row", "kind", "walk", "odds", "weights", "give", "less", ";", " ", "  ", "0", "1", "2", "3", "4",
            "9", "10", "20", "21", "24", "25", "70", "99", "100", "101", "999", "1000", "00", "001", "x", "R", "-", "\u0000", "\u00e9"};
        for (run = 0; run < 30000; run++) {
            fresh();
            StringBuilder text = new StringBuilder(goodText());
            if (rarely(4)) {
                text.setLength(0);
                for (int k = upTo(12); k > 0; k--) text.append(parts[upTo(parts.length)]);
            }
            for (int k = upTo(3); k > 0 && text.length() > 0; k--) {
                int at = upTo(text.length());
                switch (upTo(4)) {
                    case 0: text.deleteCharAt(at); break;
                    case 1: text.insert(at, parts[upTo(parts.length)]); break;
                    case 2: text.setCharAt(at, (char) upTo(256)); break;
                    default: text.setLength(at); break;
                }
            }
            if (text.length() > 240) text.setLength(240);
            feedText(text.toString());
            if (may()) is("hall() of '" + text + "'", x.hall(), m.hall());
            if (may()) is("fault() of '" + text + "'", x.fault(), m.fault());
            for (int c = 0; c <= 10; c++) if (may()) is("count of '" + text + "'", x.count(c), m.count(c));
        }
    }
}
