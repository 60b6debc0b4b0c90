/** Part 3 and promises 14 to 22, sentence by sentence. */
public final class EventEdgesTest {
    private static final int NONE = -1, UNKNOWN = -1001, OUTSIDE = -1002, NOT = -1003;
    private static final int LEAST = Integer.MIN_VALUE, MOST = Integer.MAX_VALUE;

    public static void main(String[] args) {
        hands();
        eventsOneBehindTheOther();
        freePegOfItsKind();
        brassOfNobodyElse();
        wrongHanging();
        hangUnknown();
        hangOutside();
        hungAlready();
        hasAClaim();
        gettingWhatHangs();
        wrongGiving();
        brassIsBack();
        giveUnknown();
        giveNot();
        losing();
        loseRefused();
        onceInTheHall();
        factsOfAnEvent();
        noSuchEvent();
        strayGuests();
        openChains();
        rings();
        membersOfAChain();
        chainRefused();
        ringRefused();
        exchangesOfRings();
        exchangesOfOpenChains();
        exchangesOfAll();
        firstOfItsEvents();
        bothRight();
        notGivenYet();
        grantedThings();
        handOrEvent();
        wrongRefused();
        Due.end();
    }

    /** Pegs 0 to 21 dry, 22 wet, 23 for hats; all guests dry. */
    private static CoatsHall withGuests(int guests) {
        CoatsHall x = Due.withHall("row 22 kind 0 walk 0;row 1 kind 1 walk 0;row 1 kind 2 walk 0;");
        for (int g = 0; g < guests; g++) x.guest(0, 0, 0, g);
        return x;
    }

    /** Each guest's thing on the peg of its number, with that brass. */
    private static CoatsHall hung(int guests) {
        CoatsHall x = withGuests(guests);
        for (int g = 0; g < guests; g++) x.hang(0, g, g, g);
        return x;
    }

    private static CoatsHall given(int guests, int... takes) {
        CoatsHall x = hung(guests);
        for (int g = 0; g < takes.length; g++) if (takes[g] != NONE) Due.is("given", Math.min(0, x.give(0, g, takes[g])), 0);
        return x;
    }

    // ---- hanging, giving, losing

    private static void hands() {
        Due.says("part 3: HANDS (0 to 3) do EVENTS");
        CoatsHall x = withGuests(4);
        for (int hand = 0; hand <= 3; hand++) {
            Due.is("hang by " + hand, x.hang(hand, hand, hand, hand), hand);
            Due.is("its HAND", x.event(hand, 1), hand);
        }
        for (int hand = 0; hand <= 3; hand++) {
            Due.is("give by " + hand, x.give(hand, hand, hand), 4 + hand);
            Due.is("its HAND", x.event(4 + hand, 1), hand);
        }
        CoatsHall y = withGuests(1);
        for (int hand : new int[] {-1, 4, MOST, LEAST}) Due.is("hang by " + hand, y.hang(hand, 0, 0, 0), UNKNOWN);
        y.hang(0, 0, 0, 0);
        for (int hand : new int[] {-1, 4, MOST, LEAST}) Due.is("give by " + hand, y.give(hand, 0, 0), UNKNOWN);
    }

    /** More than 32 can't come about: a guest hangs once, and has brass to give back or to lose once. */
    private static void eventsOneBehindTheOther() {
        Due.says("part 3: EVENTS (60 at most), one behind the other; 14, 15, 16: the EVENT");
        CoatsHall x = withGuests(16);
        for (int g = 0; g < 16; g++) Due.is("HANGING", x.hang(0, g, g, g), g);
        for (int g = 0; g < 16; g++) Due.is("GIVING or LOSING", g % 2 == 0 ? x.give(1, g, 15 - g) : x.lose(g), 16 + g);
        Due.is("how many", x.count(2), 32);
        for (int g = 0; g < 16; g++) {
            Due.is("hung once for all", x.hang(0, g, 21, 21), NOT);
            Due.is("no BRASS", x.give(0, g, 1), NOT);
            Due.is("no BRASS", x.lose(g), NOT);
        }
        Due.is("how many still", x.count(2), 32);
        Due.is("the last", x.event(31, 0), 2);
    }

    private static void freePegOfItsKind() {
        Due.says("part 1: A THING may hang on a PEG of its KIND that is free; 14: NOT: the PEG is of another KIND or not free");
        CoatsHall x = Due.withHall("row 1 kind 0 walk 0;row 1 kind 1 walk 0;row 1 kind 2 walk 0;");
        for (int kind = 0; kind < 3; kind++) x.guest(0, kind, 0, 0);
        x.guest(0, 1, 0, 0);
        for (int g = 0; g < 3; g++) for (int p = 0; p < 3; p++) if (g != p) Due.is("another KIND", x.hang(0, g, p, p), NOT);
        for (int g = 2; g >= 0; g--) Due.is("of its KIND", x.hang(0, g, g, g), 2 - g);
        Due.is("not free", x.hang(0, 3, 1, 3), NOT);
        x.lose(1);
        Due.is("not free: only the BRASS is lost", x.hang(0, 3, 1, 3), NOT);
        x.give(0, 0, 1);
        Due.is("free again", x.hang(0, 3, 1, 3), 5);
    }

    private static void brassOfNobodyElse() {
        Due.says("part 3: the GUEST gets a BRASS number (0 .. 23) that no GUEST has; 14: NOT: the BRASS is some GUEST's");
        CoatsHall x = withGuests(16);
        Due.is("the least", x.hang(0, 0, 5, 0), 0);
        Due.is("the greatest", x.hang(0, 1, 6, 23), 1);
        Due.is("0 has it", x.hang(0, 2, 0, 0), NOT);
        Due.is("1 has it", x.hang(0, 2, 7, 23), NOT);
        Due.is("a PEG's number is not its BRASS", x.hang(0, 2, 7, 5), 2);
        x.give(0, 0, 6);
        Due.is("it is back then", x.hang(0, 3, 8, 0), 4);
        Due.is("the OWNER of what was given has its own still", x.hang(0, 4, 9, 23), NOT);
        x.lose(1);
        Due.is("nobody has it", x.hang(0, 4, 9, 23), 6);
        Due.is("the last GUEST", x.hang(0, 15, 10, 22), 7);
        Due.is("the last GUEST has it", x.hang(0, 14, 11, 22), NOT);
        Due.is("as told", x.told(4, 4), 23);
    }

    private static void wrongHanging() {
        Due.says("part 3: HANGING .. WRONG, if that is not the PEG's");
        CoatsHall x = Due.withHall("row 24 kind 0 walk 0;");
        for (int g = 0; g < 5; g++) x.guest(0, 0, 0, 0);
        int[][] hangings = {{0, 0, 0}, {23, 23, 0}, {1, 2, 1}, {2, 1, 1}, {22, 10, 1}};
        for (int g = 0; g < 5; g++) {
            x.hang(0, g, hangings[g][0], hangings[g][1]);
            Due.is("PEG " + hangings[g][0] + ", BRASS " + hangings[g][1], x.event(g, 6), hangings[g][2]);
        }
    }

    private static void hangUnknown() {
        Due.says("14: UNKNOWN (HAND, GUEST, PEG)");
        CoatsHall x = withGuests(2);
        for (int bad : new int[] {-1, 4, MOST, LEAST}) Due.is("HAND " + bad, x.hang(bad, 0, 0, 0), UNKNOWN);
        for (int bad : new int[] {-1, 2, 16, MOST, LEAST}) Due.is("GUEST " + bad, x.hang(0, bad, 0, 0), UNKNOWN);
        for (int bad : new int[] {-1, 24, MOST, LEAST}) Due.is("PEG " + bad, x.hang(0, 0, bad, 0), UNKNOWN);
        Due.is("no EVENT", x.count(2), 0);
        CoatsHall y = Due.withHall("row 3 kind 0 walk 0;");
        y.guest(0, 0, 0, 0);
        Due.is("PEG 3 of three", y.hang(0, 0, 3, 3), UNKNOWN);
        Due.is("PEG 2 of three", y.hang(0, 0, 2, 3), 0);
    }

    private static void hangOutside() {
        Due.says("14: OUTSIDE (BRASS)");
        CoatsHall x = withGuests(2);
        for (int bad : new int[] {-1, 24, MOST, LEAST}) Due.is("BRASS " + bad, x.hang(0, 0, 0, bad), OUTSIDE);
        Due.is("BRASS 23", x.hang(0, 0, 0, 23), 0);
        Due.is("BRASS 0", x.hang(0, 1, 1, 0), 1);
    }

    private static void hungAlready() {
        Due.says("14: NOT: it was hung already");
        CoatsHall x = withGuests(4);
        x.keep(0);
        for (int g = 0; g < 4; g++) x.hang(0, g, g, g);
        Due.is("it hangs", x.hang(0, 0, 10, 10), NOT);
        x.give(0, 0, 0);
        Due.is("its OWNER has it", x.hang(0, 0, 10, 10), NOT);
        x.give(0, 1, 2);
        Due.is("another has it", x.hang(0, 2, 10, 10), NOT);
        x.lose(3);
        x.claim(3, 3, 0);
        Due.is("granted", x.grant(0), 3);
        Due.is("its OWNER was granted it", x.hang(0, 3, 10, 10), NOT);
        x.goBack(0);
        Due.is("not hung then", x.hang(0, 0, 10, 10), 0);
    }

    private static void hasAClaim() {
        Due.says("14: NOT: the GUEST has a CLAIM");
        CoatsHall x = withGuests(8);
        x.hang(0, 7, 7, 7);
        for (int g = 0; g < 6; g++) x.claim(g, g == 3 ? 7 : 8, 0);
        for (int g = 0; g < 6; g++) Due.is("CLAIM " + g, x.hang(0, g, g, g), NOT);
        Due.is("no CLAIM", x.hang(0, 6, 6, 6), 1);
        CoatsHall y = withGuests(2);
        y.hang(0, 0, 0, 0);
        y.claim(1, 0, 0);
        Due.is("granted: the CLAIM is gone", y.grant(0), 0);
        Due.is("one who HAS another's hangs its own", y.hang(0, 1, 1, 1), 1);
    }

    private static void gettingWhatHangs() {
        Due.says("part 3: GIVING: a GUEST who has BRASS gets what hangs on a PEG");
        CoatsHall x = Due.withHall("row 1 kind 0 walk 0;row 1 kind 1 walk 0;row 1 kind 2 walk 0;");
        for (int kind = 0; kind < 3; kind++) {
            x.guest(0, kind, 0, 0);
            x.hang(0, kind, kind, kind);
        }
        // Of whatever KIND it is.
        for (int g = 0; g < 3; g++) Due.is("give", x.give(0, g, (g + 1) % 3), 3 + g);
        for (int g = 0; g < 3; g++) {
            Due.is("whose it HAS", x.told(g, 7), (g + 1) % 3);
            Due.is("its PEG is free", x.peg(g, 2), NONE);
        }
    }

    private static void wrongGiving() {
        Due.says("part 3: GIVING .. WRONG, if the PEG is not the BRASS");
        CoatsHall x = withGuests(6);
        int[][] hangings = {{0, 1}, {1, 0}, {2, 2}, {3, 21}, {21, 3}, {5, 5}};
        for (int g = 0; g < 6; g++) x.hang(0, g, hangings[g][0], hangings[g][1]);
        int[][] givings = {{0, 1, 0}, {1, 0, 0}, {2, 3, 1}, {3, 2, 1}, {4, 21, 1}, {5, 5, 0}};
        for (int[] n : givings) {
            int e = x.give(0, n[0], n[1]);
            Due.is("BRASS " + x.event(e, 4) + ", PEG " + n[1], x.event(e, 6), n[2]);
        }
    }

    private static void brassIsBack() {
        Due.says("part 3: the BRASS is back then");
        CoatsHall x = hung(3);
        x.guest(0, 0, 0, 0);
        x.give(0, 0, 1);
        Due.is("none", x.told(0, 4), NONE);
        Due.is("the OWNER's is not", x.told(1, 4), 1);
        Due.is("the EVENT tells it", x.event(3, 4), 0);
        Due.is("it may be given out again", x.hang(0, 3, 4, 0), 4);
    }

    private static void giveUnknown() {
        Due.says("15: UNKNOWN");
        CoatsHall x = hung(2);
        for (int bad : new int[] {-1, 4, MOST, LEAST}) Due.is("HAND " + bad, x.give(bad, 0, 0), UNKNOWN);
        for (int bad : new int[] {-1, 2, 16, MOST, LEAST}) Due.is("GUEST " + bad, x.give(0, bad, 0), UNKNOWN);
        for (int bad : new int[] {-1, 24, MOST, LEAST}) Due.is("PEG " + bad, x.give(0, 0, bad), UNKNOWN);
        Due.is("no EVENT", x.count(2), 2);
    }

    private static void giveNot() {
        Due.says("15: NOT: the GUEST has no BRASS, HAS something, or nothing hangs there");
        CoatsHall x = hung(4);
        x.guest(0, 0, 0, 0);
        Due.is("never had BRASS", x.give(0, 4, 0), NOT);
        x.lose(3);
        Due.is("lost its BRASS", x.give(0, 3, 3), NOT);
        Due.is("nothing was hung there", x.give(0, 0, 10), NOT);
        x.give(0, 1, 1);
        Due.is("nothing hangs there now", x.give(0, 0, 1), NOT);
        Due.is("gave its BRASS back", x.give(0, 1, 2), NOT);
        x.claim(4, 3, 0);
        Due.is("granted", x.grant(0), 3);
        Due.is("hangs its own", x.hang(0, 4, 4, 4), 6);
        Due.is("has BRASS, and HAS something", x.give(0, 4, 4), NOT);
        Due.is("its own is given to another", x.give(0, 0, 4), 7);
    }

    private static void losing() {
        Due.says("part 3: LOSING: a GUEST loses its BRASS: nobody has it (it may be given out again)");
        CoatsHall x = hung(3);
        x.guest(0, 0, 0, 0);
        Due.is("lose", x.lose(1), 3);
        Due.is("none", x.told(1, 4), NONE);
        Due.is("its THING hangs still", x.told(1, 5), 1);
        Due.is("given out again", x.hang(0, 3, 3, 1), 4);
        Due.is("by which 3 gets what 1 hung", x.give(0, 3, 1), 5);
        Due.is("and rightly", x.event(5, 6), 0);
        Due.is("lost for one who HAS nothing", x.told(1, 7), NONE);
    }

    private static void loseRefused() {
        Due.says("16: UNKNOWN, NOT: it has no BRASS");
        CoatsHall x = hung(2);
        x.guest(0, 0, 0, 0);
        for (int bad : new int[] {-1, 3, 16, MOST, LEAST}) Due.is("lose(" + bad + ")", x.lose(bad), UNKNOWN);
        Due.is("never had any", x.lose(2), NOT);
        x.lose(0);
        Due.is("lost it already", x.lose(0), NOT);
        x.give(0, 1, 1);
        Due.is("gave it back", x.lose(1), NOT);
        Due.is("EVENTS", x.count(2), 4);
    }

    private static void onceInTheHall() {
        Due.says("part 3: Each THING is in the hall once: its GUEST has not hung it yet, or it hangs, or some GUEST HAS it");
        CoatsHall x = withGuests(3);
        int[][] due = {{NONE, NONE, NONE}, {2, NONE, 0}, {NONE, 1, NONE}};
        for (int step = 0; step < 3; step++) {
            Due.is("its PEG", x.told(0, 5), due[step][0]);
            Due.is("who HAS it", x.told(0, 6), due[step][1]);
            Due.is("what hangs on 2", x.peg(2, 2), due[step][2]);
            if (step == 0) x.hang(0, 0, 2, 2);
            if (step == 0) x.hang(0, 1, 1, 1);
            if (step == 1) x.give(0, 1, 2);
        }
    }

    // ---- an event

    private static void factsOfAnEvent() {
        Due.says("17: what = 0 0 HANGING, 1 GIVING, 2 LOSING, 1 HAND (NONE), 2 GUEST, 3 PEG (NONE), 4 BRASS, 5 whose THING (NONE), 6 whether it was WRONG (1, 0)");
        CoatsHall x = withGuests(16);
        x.hang(3, 15, 21, 23);
        x.hang(0, 0, 0, 0);
        x.hang(1, 7, 5, 21);
        x.give(3, 7, 21);
        x.give(2, 15, 0);
        x.lose(0);
        int[][] due = {{0, 3, 15, 21, 23, 15, 1}, {0, 0, 0, 0, 0, 0, 0}, {0, 1, 7, 5, 21, 7, 1}, {1, 3, 7, 21, 21, 15, 0},
            {1, 2, 15, 0, 23, 0, 1}, {2, NONE, 0, NONE, 0, NONE, 0}};
        for (int e = 0; e < 6; e++) for (int what = 0; what <= 6; what++) Due.is("event(" + e + ", " + what + ")", x.event(e, what), due[e][what]);
        CoatsHall y = withGuests(1);
        y.hang(0, 0, 5, 9);
        y.lose(0);
        Due.is("a LOSING is never WRONG", y.event(1, 6), 0);
        Due.is("it is of no HAND", y.event(1, 1), NONE);
        Due.is("its BRASS", y.event(1, 4), 9);
    }

    private static void noSuchEvent() {
        Due.says("17: UNKNOWN, OUTSIDE");
        CoatsHall x = withGuests(2);
        Due.is("none yet", x.event(0, 0), UNKNOWN);
        x.keep(0);
        x.hang(0, 0, 0, 0);
        for (int e : new int[] {1, -1, 59, 60, MOST, LEAST}) Due.is("event(" + e + ")", x.event(e, 0), UNKNOWN);
        for (int what : new int[] {-1, 7, MOST, LEAST}) Due.is("what " + what, x.event(0, what), OUTSIDE);
        x.goBack(0);
        Due.is("none again", x.event(0, 0), UNKNOWN);
    }

    // ---- astray, chains, rings, exchanges

    private static void strayGuests() {
        Due.says("part 3: ASTRAY is a GUEST who HAS another one's; 18: the SET");
        Due.is("nobody", new CoatsHall().astray(), 0);
        Due.is("nobody HAS anything", hung(16).astray(), 0);
        Due.is("one with its own", given(2, 0).astray(), 0);
        Due.is("the first", given(16, 15).astray(), 1);
        Due.is("one whose own another HAS is not, with nothing", given(3, NONE, 0).astray(), 2);
        CoatsHall x = hung(16);
        x.give(0, 15, 0);
        Due.is("the last", x.astray(), 1 << 15);
        for (int g = 0; g < 15; g++) x.give(0, g, g + 1);
        Due.is("all sixteen", x.astray(), 0xffff);
    }

    private static void openChains() {
        Due.says("part 3: it ends at one who HAS nothing (OPEN)");
        CoatsHall x = given(4, 1, 2, 3);
        int[][] due = {{0, 1, 2, 3}, {1, 2, 3}, {2, 3}};
        for (int g = 0; g < 3; g++) {
            Due.is("OPEN", x.ring(g), 0);
            Due.is("how many", x.chain(g, NONE), 4 - g);
            for (int i = 0; i < 4 - g; i++) Due.is("member", x.chain(g, i), due[g][i]);
        }
        CoatsHall y = withGuests(3);
        y.hang(0, 0, 0, 0);
        y.claim(2, 0, 0);
        Due.is("granted", y.grant(0), 0);
        Due.is("an end that lost nothing but its THING", y.chain(2, NONE), 2);
        Due.is("its end", y.chain(2, 1), 0);
    }

    private static void rings() {
        Due.says("part 3: or comes round (RING); 20: Whether the CHAIN of an ASTRAY GUEST comes round: 1, 0");
        for (int size = 2; size <= 16; size++) {
            CoatsHall x = hung(16);
            for (int g = 0; g < size; g++) {
                if (g == size - 1) Due.is("not yet", x.ring(0), 0);
                x.give(0, g, (g + 1) % size);
            }
            for (int g = 0; g < size; g++) Due.is("ring(" + g + ") of " + size, x.ring(g), 1);
            Due.is("chain of " + size, x.chain(size - 1, NONE), size);
        }
    }

    private static void membersOfAChain() {
        Due.says("19: i = NONE how many GUESTS it has, with it (each once), else the i-th; NONE (i below NONE, too)");
        CoatsHall ring = given(3, 1, 2, 0);
        for (int g = 0; g < 3; g++) {
            Due.is("how many", ring.chain(g, NONE), 3);
            for (int i = 0; i < 3; i++) Due.is("the " + i + "-th", ring.chain(g, i), (g + i) % 3);
            for (int i : new int[] {3, 4, 6, MOST, -2, -3, LEAST}) Due.is("chain(" + g + ", " + i + ")", ring.chain(g, i), NONE);
        }
        CoatsHall open = given(3, 1, 2);
        Due.is("how many", open.chain(0, NONE), 3);
        for (int i : new int[] {3, 4, 16, 17, MOST, -2, LEAST}) Due.is("chain(0, " + i + ")", open.chain(0, i), NONE);
        CoatsHall all = hung(16);
        for (int g = 0; g < 16; g++) all.give(0, g, (g + 15) % 16);
        Due.is("sixteen", all.chain(0, NONE), 16);
        Due.is("the last", all.chain(0, 15), 1);
        Due.is("each once", all.chain(0, 16), NONE);
    }

    private static void chainRefused() {
        Due.says("19: UNKNOWN, NOT: it is not ASTRAY");
        CoatsHall x = given(4, 1, NONE, 2);
        for (int g : new int[] {-1, 4, 16, MOST, LEAST}) Due.is("chain(" + g + ", 0)", x.chain(g, 0), UNKNOWN);
        for (int g = 1; g < 4; g++) {
            Due.is("the end of one, one with its own, one with nothing", x.chain(g, NONE), NOT);
            Due.is("i does not count", x.chain(g, -5), NOT);
        }
    }

    private static void ringRefused() {
        Due.says("20: UNKNOWN, NOT");
        CoatsHall x = given(4, 1, NONE, 2);
        for (int g : new int[] {-1, 4, 16, MOST, LEAST}) Due.is("ring(" + g + ")", x.ring(g), UNKNOWN);
        for (int g = 1; g < 4; g++) Due.is("ring(" + g + ")", x.ring(g), NOT);
        Due.is("ring(0)", x.ring(0), 0);
    }

    private static void exchangesOfRings() {
        Due.says("part 3: EXCHANGES that put all right: of each RING one less than it has GUESTS");
        for (int size = 2; size <= 16; size++) {
            CoatsHall x = hung(16);
            for (int g = 0; g < size; g++) x.give(0, g, (g + 1) % size);
            Due.is("a RING of " + size, x.exchanges(), size - 1);
        }
        Due.is("two RINGS", given(5, 1, 0, 3, 4, 2).exchanges(), 1 + 2);
        Due.is("the least GUEST in none of them", given(5, 0, 2, 1, 4, 3).exchanges(), 2);
        Due.is("eight RINGS", given(16, 15, 14, 13, 12, 11, 10, 9, 8, 7, 6, 5, 4, 3, 2, 1, 0).exchanges(), 8);
    }

    private static void exchangesOfOpenChains() {
        Due.says("part 3: of each OPEN CHAIN (the longest, from one whose own nobody HAS) as many as there are ASTRAY ones in it");
        Due.is("one ASTRAY", given(2, 1).exchanges(), 1);
        Due.is("two ASTRAY, one CHAIN", given(3, 1, 2).exchanges(), 2);
        Due.is("against their numbers", given(3, NONE, 0, 1).exchanges(), 2);
        CoatsHall x = hung(16);
        for (int g = 0; g < 15; g++) x.give(0, g, g + 1);
        Due.is("fifteen ASTRAY", x.exchanges(), 15);
        Due.is("two CHAINS", given(6, 1, 2, NONE, 4, 5).exchanges(), 4);
    }

    private static void exchangesOfAll() {
        Due.says("21: EXCHANGES");
        Due.is("nobody", new CoatsHall().exchanges(), 0);
        Due.is("all right", given(3, 0, 1, 2).exchanges(), 0);
        Due.is("nothing given", hung(16).exchanges(), 0);
        Due.is("a RING and an OPEN CHAIN", given(6, 1, 0, 3, 4, NONE, 5).exchanges(), 1 + 2);
    }

    // ---- the first wrong hand

    private static void wrong(CoatsHall x, int g, int hand, int event) {
        Due.is("HAND for " + g, x.wrong(g, 0), hand);
        Due.is("EVENT for " + g, x.wrong(g, 1), event);
    }

    private static void firstOfItsEvents() {
        Due.says("part 3: THE FIRST WRONG HAND for a THING: of the EVENTS of its PEGS (its HANGING, the GIVING of it) the first that was WRONG");
        CoatsHall x = withGuests(4);
        x.hang(1, 0, 0, 9);
        x.hang(2, 1, 1, 1);
        x.hang(3, 2, 2, 2);
        x.hang(0, 3, 3, 10);
        wrong(x, 0, 1, 0);
        x.give(2, 1, 0);
        wrong(x, 0, 1, 0);
        x.give(3, 2, 1);
        wrong(x, 1, 3, 5);
        // 3's BRASS was wrong, and 3 came with it to 2's PEG: the GIVING is WRONG, and it is of 2's THING.
        x.give(1, 3, 2);
        wrong(x, 2, 1, 6);
        wrong(x, 3, 0, 3);
    }

    private static void bothRight() {
        Due.says("part 3: if both were right: the HANGING by which the GUEST who HAS it got the BRASS with which it came, if that was WRONG; NONE");
        CoatsHall x = withGuests(4);
        x.hang(1, 0, 0, 0);
        x.lose(0);
        x.hang(2, 1, 1, 0);
        x.give(3, 1, 0);
        wrong(x, 0, 2, 2);
        // All three right: NONE.
        x.hang(1, 2, 2, 2);
        x.give(1, 2, 2);
        wrong(x, 2, NONE, NONE);
        CoatsHall y = withGuests(2);
        y.hang(0, 0, 0, 0);
        y.lose(0);
        y.hang(3, 1, 1, 1);
        // The BRASS of another is right, and so is its HANGING: nobody was wrong but GUEST and HAND at the GIVING.
        y.give(2, 1, 0);
        wrong(y, 0, 2, 3);
    }

    private static void notGivenYet() {
        Due.says("part 3: THE FIRST WRONG HAND: NONE (nothing was WRONG yet)");
        CoatsHall x = withGuests(3);
        wrong(x, 0, NONE, NONE);
        x.hang(1, 0, 0, 0);
        wrong(x, 0, NONE, NONE);
        x.hang(1, 1, 1, 2);
        wrong(x, 1, 1, 1);
        x.lose(1);
        wrong(x, 1, 1, 1);
        x.lose(0);
        wrong(x, 0, NONE, NONE);
    }

    private static void grantedThings() {
        Due.says("30: is given .. (no EVENT); part 3: the BRASS with which it came (one that is granted something comes with none)");
        CoatsHall x = withGuests(2);
        x.hang(1, 0, 0, 0);
        x.hang(2, 1, 1, 5);
        x.lose(1);
        x.lose(0);
        x.claim(1, 0, 1);
        Due.is("0's is granted to 1", x.grant(0), 0);
        wrong(x, 0, NONE, NONE);
        wrong(x, 1, 2, 1);
    }

    private static void handOrEvent() {
        Due.says("22: what = 0 the HAND, 1 the EVENT; NONE");
        CoatsHall x = withGuests(5);
        for (int hand = 0; hand < 4; hand++) {
            x.hang(hand, hand, hand, 10 + hand);
            wrong(x, hand, hand, hand);
        }
        wrong(x, 4, NONE, NONE);
    }

    private static void wrongRefused() {
        Due.says("22: UNKNOWN, OUTSIDE");
        CoatsHall x = hung(2);
        for (int g : new int[] {-1, 2, 16, MOST, LEAST}) Due.is("wrong(" + g + ")", x.wrong(g, 0), UNKNOWN);
        for (int what : new int[] {-1, 2, MOST, LEAST}) Due.is("what " + what, x.wrong(0, what), OUTSIDE);
    }
}
