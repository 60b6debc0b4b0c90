import java.util.ArrayList;
import java.util.Comparator;
import java.util.List;
import java.util.PriorityQueue;
import java.util.TreeSet;
import java.util.regex.Matcher;
import java.util.regex.Pattern;

/** The document once more, said as plainly as it goes and without regard to cost, to be asked beside the program. */
final class Model {
    static final int NONE = -1, UNKNOWN = -1001, OUTSIDE = -1002, NOT = -1003, FULL = -1004;

    static final class Person {
        int sort, kind, tip, marks, brass = NONE, peg = NONE, has = NONE;
        boolean hung = false;

        Person copy() {
            Person p = new Person();
            p.sort = sort;
            p.kind = kind;
            p.tip = tip;
            p.marks = marks;
            p.brass = brass;
            p.peg = peg;
            p.has = has;
            p.hung = hung;
            return p;
        }
    }

    static final class State {
        List<Person> guests = new ArrayList<>();
        List<int[]> events = new ArrayList<>();
        List<int[]> claims = new ArrayList<>();
        List<int[]> nights = new ArrayList<>();

        State copy() {
            State s = new State();
            for (Person p : guests) s.guests.add(p.copy());
            s.events.addAll(events);
            s.claims.addAll(claims);
            s.nights.addAll(nights);
            return s;
        }
    }

    String text = "";
    List<int[]> pegs = new ArrayList<>();
    int[][] odds = {{10, 20, 70}, {10, 20, 70}, {10, 20, 70}, {10, 20, 70}};
    int[] weights = {1, 2, 5};
    int give = 2, less = 1, faultAt = NONE;
    int nightPlay = NONE, nightWeather = 0;
    State s = new State();
    State[] images = new State[2];

    // ---- the hall

    int feed(int n, long bytes) {
        if (n < 1 || n > 8) return OUTSIDE;
        if (text.length() + n > 240) return FULL;
        for (int i = n - 1; i >= 0; i--) text += (char) (bytes >>> 8 * i & 255);
        return text.length();
    }

    private static final class Fault extends RuntimeException {
        final int number, place;

        Fault(int number, int place) {
            super(null, null, false, false);
            this.number = number;
            this.place = place;
        }
    }

    private record Token(String word, int place) { }

    int hall() {
        if (!s.events.isEmpty()) return NOT;
        List<Token> tokens = new ArrayList<>();
        Matcher m = Pattern.compile("[a-z]+|[0-9]+| +|.", Pattern.DOTALL).matcher(text);
        while (m.find()) if (!m.group().startsWith(" ")) tokens.add(new Token(m.group(), m.start()));
        tokens.add(new Token("", text.length()));
        text = "";
        Model fresh = new Model();
        try {
            fresh.understand(tokens);
        } catch (Fault f) {
            faultAt = f.place;
            return -10 - f.number;
        }
        pegs = fresh.pegs;
        odds = fresh.odds;
        weights = fresh.weights;
        give = fresh.give;
        less = fresh.less;
        faultAt = NONE;
        images = new State[2];
        return pegs.size();
    }

    private void understand(List<Token> tokens) {
        TreeSet<String> told = new TreeSet<>();
        int i = 0;
        while (tokens.get(i).word.length() > 0) {
            Token first = tokens.get(i++);
            String form = switch (first.word) {
                case "row" -> "N kind K walk W ;";
                case "odds" -> "P A B C ;";
                case "weights" -> "X Y Z ;";
                case "give" -> "G ;";
                case "less" -> "L ;";
                default -> throw new Fault(1, first.place);
            };
            if ("weights give less".contains(first.word) && !told.add(first.word)) throw new Fault(3, first.place);
            List<Integer> numbers = new ArrayList<>();
            for (String part : form.split(" ")) {
                Token t = tokens.get(i++);
                if (!Character.isUpperCase(part.charAt(0))) {
                    if (!t.word.equals(part)) throw new Fault(1, t.place);
                    continue;
                }
                if (!t.word.matches("[0-9]+")) throw new Fault(1, t.place);
                if (t.word.length() > 3) throw new Fault(2, t.place);
                int value = Integer.parseInt(t.word);
                int most = switch (part) {
                    case "N" -> 24;
                    case "K" -> 2;
                    case "W" -> 99;
                    case "P" -> 3;
                    case "A", "B", "C" -> 100;
                    case "X", "Y", "Z" -> 9;
                    default -> 20;
                };
                if (value > most || part.equals("N") && value == 0) throw new Fault(2, t.place);
                if (part.equals("P") && !told.add("odds" + value)) throw new Fault(3, t.place);
                if (part.equals("N") && pegs.size() + value > 24) throw new Fault(4, t.place);
                if (part.equals("C") && numbers.get(1) + numbers.get(2) + value != 100) throw new Fault(5, t.place);
                numbers.add(value);
            }
            obey(first.word, numbers);
        }
    }

    private void obey(String word, List<Integer> numbers) {
        switch (word) {
            case "row" -> {
                for (int k = 0; k < numbers.get(0); k++) pegs.add(new int[] {numbers.get(1), numbers.get(2) + k});
            }
            case "odds" -> odds[numbers.get(0)] = new int[] {numbers.get(1), numbers.get(2), numbers.get(3)};
            case "weights" -> weights = new int[] {numbers.get(0), numbers.get(1), numbers.get(2)};
            case "give" -> give = numbers.get(0);
            default -> less = numbers.get(0);
        }
    }

    int fault() {
        return faultAt;
    }

    private boolean noPeg(int p) {
        return p < 0 || p >= pegs.size();
    }

    private boolean noGuest(int g) {
        return g < 0 || g >= s.guests.size();
    }

    boolean noGuestHas(int g) {
        return noGuest(g);
    }

    private boolean noClaim(int c) {
        return c < 0 || c >= s.claims.size();
    }

    private static boolean out(int x, int least, int most) {
        return x < least || x > most;
    }

    private int on(int p) {
        for (int g = 0; g < s.guests.size(); g++) if (s.guests.get(g).peg == p) return g;
        return NONE;
    }

    private int holder(int owner) {
        for (int g = 0; g < s.guests.size(); g++) if (s.guests.get(g).has == owner) return g;
        return NONE;
    }

    int peg(int p, int what) {
        if (noPeg(p)) return UNKNOWN;
        if (out(what, 0, 2)) return OUTSIDE;
        return what == 2 ? on(p) : pegs.get(p)[what];
    }

    int odds(int sort, int what) {
        return out(sort, 0, 3) || out(what, 0, 2) ? OUTSIDE : odds[sort][what];
    }

    int count(int what) {
        if (out(what, 0, 10)) return OUTSIDE;
        return new int[] {pegs.size(), s.guests.size(), s.events.size(), s.claims.size(), s.nights.size(),
            text.length(), give, less, weights[0], weights[1], weights[2]}[what];
    }

    int guest(int sort, int kind, int tip, int marks) {
        if (out(sort, 0, 3) || out(kind, 0, 2) || out(tip, 0, 99) || out(marks, 0, 255)) return OUTSIDE;
        if (s.guests.size() == 16) return FULL;
        Person p = new Person();
        p.sort = sort;
        p.kind = kind;
        p.tip = tip;
        p.marks = marks;
        s.guests.add(p);
        return s.guests.size() - 1;
    }

    private int expected(int g) {
        int sum = 0;
        for (int k = 0; k < 3; k++) {
            int share = nightPlay == NONE ? odds[s.guests.get(g).sort][k] : learnt(nightPlay, nightWeather, k);
            sum += share * weights[k];
        }
        return sum;
    }

    int told(int g, int what) {
        if (noGuest(g)) return UNKNOWN;
        if (out(what, 0, 8)) return OUTSIDE;
        Person p = s.guests.get(g);
        return new int[] {p.sort, p.kind, p.tip, p.marks, p.brass, p.peg, holder(g), p.has, expected(g)}[what];
    }

    // ---- plans, nights

    int plan(boolean habit, int g) {
        if (g != NONE && noGuest(g)) return UNKNOWN;
        int[] place = new int[s.guests.size()];
        int sum = 0;
        for (int kind = 0; kind < 3; kind++) {
            List<Integer> who = new ArrayList<>(), where = new ArrayList<>();
            for (int i = 0; i < s.guests.size(); i++) if (s.guests.get(i).kind == kind) who.add(i);
            for (int i = 0; i < pegs.size(); i++) if (pegs.get(i)[0] == kind) where.add(i);
            if (who.size() > where.size()) return NONE;
            // Both sorts are stable, so like ones stay by numbers.
            if (!habit) who.sort(Comparator.comparing((Integer i) -> -expected(i)));
            where.sort(Comparator.comparing((Integer i) -> pegs.get(i)[1]));
            for (int i = 0; i < who.size(); i++) {
                place[who.get(i)] = where.get(i);
                sum += expected(who.get(i)) * pegs.get(where.get(i))[1];
            }
        }
        return g == NONE ? sum : place[g];
    }

    int night(int play, int weather, int early, int pause, int end) {
        if (out(play, 0, 3) || out(weather, 0, 1)) return OUTSIDE;
        if (out(early, 0, 999) || out(pause, 0, 999) || out(end, 0, 999)) return OUTSIDE;
        if (s.nights.size() == 60) return FULL;
        s.nights.add(new int[] {play, weather, early, pause, end});
        return s.nights.size();
    }

    int learnt(int play, int weather, int what) {
        if (out(play, 0, 3) || out(weather, 0, 1) || out(what, 0, 2)) return OUTSIDE;
        if (what == 2) return 1000 - learnt(play, weather, 0) - learnt(play, weather, 1);
        int so = 0, all = 0;
        for (int[] n : s.nights) {
            if (n[0] != play || n[1] != weather) continue;
            so += n[2 + what];
            all += n[2] + n[3] + n[4];
        }
        return 1000 * (so + 1) / (all + 3);
    }

    int tonight(int play, int weather) {
        if (out(play, -1, 3) || out(weather, 0, 1)) return OUTSIDE;
        nightPlay = play;
        nightWeather = weather;
        return 1;
    }

    // ---- events

    int hang(int hand, int g, int p, int brass) {
        if (out(hand, 0, 3) || noGuest(g) || noPeg(p)) return UNKNOWN;
        if (out(brass, 0, 23)) return OUTSIDE;
        Person it = s.guests.get(g);
        if (it.hung || hasClaim(g) || pegs.get(p)[0] != it.kind || on(p) != NONE) return NOT;
        for (Person other : s.guests) if (other.brass == brass) return NOT;
        if (s.events.size() == 60) return FULL;
        it.hung = true;
        it.peg = p;
        it.brass = brass;
        s.events.add(new int[] {0, hand, g, p, brass, g, p == brass ? 0 : 1});
        return s.events.size() - 1;
    }

    private boolean hasClaim(int g) {
        for (int[] c : s.claims) if (c[0] == g) return true;
        return false;
    }

    int give(int hand, int g, int p) {
        if (out(hand, 0, 3) || noGuest(g) || noPeg(p)) return UNKNOWN;
        Person it = s.guests.get(g);
        if (it.brass == NONE || it.has != NONE || on(p) == NONE) return NOT;
        if (s.events.size() == 60) return FULL;
        int thing = on(p);
        s.events.add(new int[] {1, hand, g, p, it.brass, thing, p == it.brass ? 0 : 1});
        s.guests.get(thing).peg = NONE;
        it.has = thing;
        it.brass = NONE;
        return s.events.size() - 1;
    }

    int lose(int g) {
        if (noGuest(g)) return UNKNOWN;
        Person it = s.guests.get(g);
        if (it.brass == NONE) return NOT;
        if (s.events.size() == 60) return FULL;
        s.events.add(new int[] {2, NONE, g, NONE, it.brass, NONE, 0});
        it.brass = NONE;
        return s.events.size() - 1;
    }

    int event(int e, int what) {
        if (e < 0 || e >= s.events.size()) return UNKNOWN;
        return out(what, 0, 6) ? OUTSIDE : s.events.get(e)[what];
    }

    private boolean strays(int g) {
        int has = s.guests.get(g).has;
        return has != NONE && has != g;
    }

    int astray() {
        int set = 0;
        for (int g = 0; g < s.guests.size(); g++) if (strays(g)) set |= 1 << g;
        return set;
    }

    /** The chain from g; comes round if the last one has the thing of the first. */
    private List<Integer> chainFrom(int g) {
        List<Integer> chain = new ArrayList<>();
        for (int at = g; at != NONE && !chain.contains(at); at = s.guests.get(at).has) chain.add(at);
        return chain;
    }

    private boolean round(List<Integer> chain) {
        return s.guests.get(chain.get(chain.size() - 1)).has == chain.get(0);
    }

    int chain(int g, int i) {
        if (noGuest(g)) return UNKNOWN;
        if (!strays(g)) return NOT;
        List<Integer> chain = chainFrom(g);
        if (i == NONE) return chain.size();
        return out(i, 0, chain.size() - 1) ? NONE : chain.get(i);
    }

    int ring(int g) {
        if (noGuest(g)) return UNKNOWN;
        if (!strays(g)) return NOT;
        return round(chainFrom(g)) ? 1 : 0;
    }

    int exchanges() {
        TreeSet<String> rings = new TreeSet<>();
        int sum = 0;
        for (int g = 0; g < s.guests.size(); g++) {
            if (!strays(g)) continue;
            List<Integer> chain = chainFrom(g);
            if (round(chain)) {
                if (rings.add(new TreeSet<>(chain).toString())) sum += chain.size() - 1;
            } else if (holder(g) == NONE) {
                for (int member : chain) if (strays(member)) sum++;
            }
        }
        return sum;
    }

    int wrong(int g, int what) {
        if (noGuest(g)) return UNKNOWN;
        if (out(what, 0, 1)) return OUTSIDE;
        int[] giving = null;
        for (int e = 0; e < s.events.size(); e++) {
            int[] it = s.events.get(e);
            if (it[5] == g && it[6] == 1) return what == 0 ? it[1] : e;
            if (it[0] == 1 && it[5] == g) giving = it;
        }
        if (giving == null) return NONE;
        for (int e = 0; e < s.events.size(); e++) {
            int[] it = s.events.get(e);
            if (it[0] == 0 && it[2] == giving[2] && it[6] == 1) return what == 0 ? it[1] : e;
        }
        return NONE;
    }

    // ---- the rush

    private boolean someDoNotHang(int set) {
        for (int g = 0; g < 32; g++) {
            if ((set >>> g & 1) == 1 && (noGuest(g) || s.guests.get(g).peg == NONE)) return true;
        }
        return false;
    }

    private List<Integer> members(int set) {
        List<Integer> list = new ArrayList<>();
        for (int g = 0; g < 16; g++) if ((set >> g & 1) == 1) list.add(g);
        return list;
    }

    /** Sum of waits, greatest wait, tips. */
    private int[] serve(List<Integer> row, int n) {
        PriorityQueue<Integer> free = new PriorityQueue<>();
        for (int h = 0; h < n; h++) free.add(0);
        int[] found = new int[3];
        for (int g : row) {
            Person p = s.guests.get(g);
            int wait = free.remove() + 2 * pegs.get(p.peg)[1] + give;
            free.add(wait);
            found[0] += wait;
            found[1] = Math.max(found[1], wait);
            found[2] += Math.max(0, p.tip - less * wait / 10);
        }
        return found;
    }

    int rush(int set, int n, int what) {
        if (someDoNotHang(set)) return UNKNOWN;
        if (out(n, 1, 4) || out(what, 0, 2)) return OUTSIDE;
        return serve(members(set), n)[what];
    }

    private List<Integer> best;
    private int[] bestFound;

    private void rows(List<Integer> row, List<Integer> rest, int n) {
        if (rest.isEmpty()) {
            int[] found = serve(row, n);
            boolean better = best == null || found[2] > bestFound[2]
                || found[2] == bestFound[2] && found[0] < bestFound[0];
            if (better) {
                best = new ArrayList<>(row);
                bestFound = found;
            }
            return;
        }
        for (int k = 0; k < rest.size(); k++) {
            List<Integer> fewer = new ArrayList<>(rest);
            row.add(fewer.remove(k));
            rows(row, fewer, n);
            row.remove(row.size() - 1);
        }
    }

    int bestRow(int set, int n, int i) {
        if (someDoNotHang(set)) return UNKNOWN;
        if (out(n, 1, 4)) return OUTSIDE;
        if (Integer.bitCount(set) > 7) return NOT;
        best = null;
        rows(new ArrayList<>(), members(set), n);
        if (i == NONE) return bestFound[2];
        return out(i, 0, best.size() - 1) ? NONE : best.get(i);
    }

    int wanted(int set, int w) {
        if (someDoNotHang(set)) return UNKNOWN;
        if (out(w, 0, 9999)) return OUTSIDE;
        for (int n = 1; n <= 4; n++) if (serve(members(set), n)[1] <= w) return n;
        return NONE;
    }

    // ---- claims

    int claim(int g, int yes, int no) {
        if (noGuest(g)) return UNKNOWN;
        if (out(yes, 0, 255) || out(no, 0, 255) || (yes & no) != 0) return OUTSIDE;
        if (s.guests.get(g).brass != NONE || s.guests.get(g).has != NONE || hasClaim(g)) return NOT;
        if (s.claims.size() == 6) return FULL;
        s.claims.add(new int[] {g, yes, no});
        return s.claims.size() - 1;
    }

    private boolean fitsThing(int g, int yes, int no, int t) {
        Person thing = s.guests.get(t);
        if (thing.peg == NONE || thing.kind != s.guests.get(g).kind) return false;
        for (int mark = 0; mark < 8; mark++) {
            boolean has = (thing.marks >> mark & 1) == 1;
            if ((yes >> mark & 1) == 1 && !has || (no >> mark & 1) == 1 && has) return false;
        }
        return true;
    }

    private int fitting(int g, int yes, int no) {
        int set = 0;
        for (int t = 0; t < s.guests.size(); t++) if (fitsThing(g, yes, no, t)) set |= 1 << t;
        return set;
    }

    int fits(int c) {
        if (noClaim(c)) return UNKNOWN;
        int[] it = s.claims.get(c);
        return fitting(it[0], it[1], it[2]);
    }

    /** Counts the ways, and notes in seen[c] which things claim c has in any of them. */
    private long assign(int c, int used, int[] chosen, int[] seen) {
        if (c == s.claims.size()) {
            for (int i = 0; i < c; i++) seen[i] |= 1 << chosen[i];
            return 1;
        }
        long sum = 0;
        int set = fits(c);
        for (int t = 0; t < 16; t++) {
            if ((set >> t & 1) == 0 || (used >> t & 1) == 1) continue;
            chosen[c] = t;
            sum += assign(c + 1, used | 1 << t, chosen, seen);
        }
        return sum;
    }

    long ways() {
        return assign(0, 0, new int[6], new int[6]);
    }

    int sure(int c) {
        if (noClaim(c)) return UNKNOWN;
        int[] seen = new int[6];
        assign(0, 0, new int[6], seen);
        return Integer.bitCount(seen[c]) == 1 ? Integer.numberOfTrailingZeros(seen[c]) : NONE;
    }

    int grant(int c) {
        if (noClaim(c)) return UNKNOWN;
        int thing = sure(c);
        if (thing == NONE) return NOT;
        s.guests.get(thing).peg = NONE;
        s.guests.get(s.claims.get(c)[0]).has = thing;
        s.claims.remove(c);
        return thing;
    }

    int apart(int g, int h) {
        if (noGuest(g) || noGuest(h)) return UNKNOWN;
        return s.guests.get(g).marks ^ s.guests.get(h).marks;
    }

    int asks(int c) {
        if (noClaim(c)) return UNKNOWN;
        int[] it = s.claims.get(c);
        int own = s.guests.get(it[0]).marks;
        for (int size = 0; size <= 8; size++) {
            for (int marks = 0; marks < 256; marks++) {
                if (Integer.bitCount(marks) != size) continue;
                int set = fitting(it[0], it[1] | marks & own, it[2] | marks & ~own);
                if (Integer.bitCount(set) == 1) return marks;
            }
        }
        return NONE;
    }

    // ---- images

    int keep(int i) {
        if (out(i, 0, 1)) return UNKNOWN;
        images[i] = s.copy();
        return 1;
    }

    int goBack(int i) {
        if (out(i, 0, 1)) return UNKNOWN;
        if (images[i] == null) return NOT;
        s = images[i].copy();
        return 1;
    }
}
