/** Coats in a hall, from the pegs to what went home on the wrong back; ../shared/DOC.md tells each promise. */
public final class CoatsHall {
    public static final int NONE = -1, UNKNOWN = -1001, OUTSIDE = -1002, NOT = -1003, FULL = -1004;

    private static final int TEXT_BYTES = 240, PEGS = 24, SORTS = 4, KINDS = 3, PARTS = 3;
    private static final int GUESTS = 16, MOST_TIP = 99, ALL_MARKS = 255, BRASSES = 24, HANDS = 4;
    private static final int EVENTS = 60, FACTS = 7, CLAIMS = 6, IMAGES = 2;
    private static final int NIGHTS = 60, PLAYS = 4, WEATHERS = 2, MOST_LEFT = 999;
    private static final int MOST_TICKS = 20, MOST_LOSS = 20, MOST_WALK = 99, MOST_WEIGHT = 9, HUNDRED = 100, THOUSAND = 1000;
    private static final int HANGING = 0, GIVING = 1, LOSING = 2;
    private static final int ROW_GUESTS = 7, ROWS = 5040, LONGEST_WAIT = 9999;
    private static final int CANNOT_STAND = 1, BAD_NUMBER = 2, TOLD_ALREADY = 3, TOO_MANY_PEGS = 4, NOT_HUNDRED = 5;
    private static final int FAULT_ANSWER = -10;
    private static final int WEIGHTS_TOLD = 1 << 4, GIVE_TOLD = 1 << 5, LESS_TOLD = 1 << 6;

    private Hall theHall = new Hall();
    private final Reader reader = new Reader();
    private final Image now = new Image();
    private final Image imageZero = new Image();
    private final Image imageOne = new Image();
    private final Plan places = new Plan();
    private final Rush service = new Rush();
    private final Matching matching = new Matching();
    private int nightPlay = NONE;
    private int nightWeather = 0;

    public CoatsHall() {
        theHall.clear();
    }

    // ---- the hall

    public int feed(int n, long bytes) {
        if (!within(n, 1, 8)) return OUTSIDE;
        if (reader.length + n > TEXT_BYTES) return FULL;
        return reader.append(n, bytes);
    }

    public int hall() {
        if (now.events.number > 0) return NOT;
        int found = reader.read();
        if (found != 0) return FAULT_ANSWER - found;
        theHall = reader.changeDraft(theHall);
        imageZero.kept = false;
        imageOne.kept = false;
        return theHall.pegs;
    }

    public int fault() {
        return reader.place;
    }

    public int peg(int p, int what) {
        if (!theHall.hasPeg(p)) return UNKNOWN;
        switch (what) {
            case 0: return theHall.kind[p];
            case 1: return theHall.walk[p];
            case 2: return now.guests.ownerOn(p);
            default: return OUTSIDE;
        }
    }

    public int odds(int sort, int what) {
        if (!within(sort, 0, SORTS - 1) || !within(what, 0, PARTS - 1)) return OUTSIDE;
        return theHall.shareOf(sort, what);
    }

    public int count(int what) {
        switch (what) {
            case 0: return theHall.pegs;
            case 1: return now.guests.number;
            case 2: return now.events.number;
            case 3: return now.claims.number;
            case 4: return now.nights.number;
            case 5: return reader.length;
            case 6: return theHall.ticks;
            case 7: return theHall.loss;
            case 8: return theHall.weightOf(0);
            case 9: return theHall.weightOf(1);
            case 10: return theHall.weightOf(2);
            default: return OUTSIDE;
        }
    }

    public int guest(int sort, int kind, int tip, int marks) {
        if (!within(sort, 0, SORTS - 1) || !within(kind, 0, KINDS - 1)) return OUTSIDE;
        if (!within(tip, 0, MOST_TIP) || !within(marks, 0, ALL_MARKS)) return OUTSIDE;
        if (now.guests.number >= GUESTS) return FULL;
        return now.guests.add(sort, kind, tip, marks);
    }

    public int told(int g, int what) {
        Guests all = now.guests;
        if (!all.knows(g)) return UNKNOWN;
        switch (what) {
            case 0: return all.sort[g];
            case 1: return all.kind[g];
            case 2: return all.tip[g];
            case 3: return all.marks[g];
            case 4: return all.brass[g];
            case 5: return all.peg[g];
            case 6: return all.holderOf(g);
            case 7: return all.has[g];
            case 8: return expectedOf(g);
            default: return OUTSIDE;
        }
    }

    // ---- plans, nights

    public int plan(boolean habit, int g) {
        if (g != NONE && !now.guests.knows(g)) return UNKNOWN;
        for (int i = 0; i < now.guests.number; i++) places.expected[i] = expectedOf(i);
        if (!places.make(habit, now.guests, theHall)) return NONE;
        return g == NONE ? places.sum : places.pegOf(g);
    }

    public int night(int play, int weather, int early, int pause, int end) {
        if (!within(play, 0, PLAYS - 1) || !within(weather, 0, WEATHERS - 1)) return OUTSIDE;
        if (!within(early, 0, MOST_LEFT) || !within(pause, 0, MOST_LEFT) || !within(end, 0, MOST_LEFT)) return OUTSIDE;
        if (now.nights.number >= NIGHTS) return FULL;
        return now.nights.add(play, weather, early, pause, end);
    }

    public int learnt(int play, int weather, int what) {
        if (!within(play, 0, PLAYS - 1) || !within(weather, 0, WEATHERS - 1)) return OUTSIDE;
        if (!within(what, 0, PARTS - 1)) return OUTSIDE;
        return now.nights.oddsOf(play, weather, what);
    }

    public int tonight(int play, int weather) {
        if (!within(play, NONE, PLAYS - 1) || !within(weather, 0, WEATHERS - 1)) return OUTSIDE;
        nightPlay = play;
        nightWeather = weather;
        return 1;
    }

    // ---- events

    public int hang(int hand, int g, int p, int brass) {
        if (!isHand(hand) || !now.guests.knows(g) || !theHall.hasPeg(p)) return UNKNOWN;
        if (!within(brass, 0, BRASSES - 1)) return OUTSIDE;
        if (!mayHang(g, p) || now.guests.brassIsOut(brass)) return NOT;
        if (now.events.isFull()) return FULL;
        now.guests.peg[g] = p;
        now.guests.brass[g] = brass;
        return now.events.add(HANGING, hand, g, p, brass, g);
    }

    public int give(int hand, int g, int p) {
        Guests all = now.guests;
        if (!isHand(hand) || !all.knows(g) || !theHall.hasPeg(p)) return UNKNOWN;
        int owner = all.ownerOn(p);
        if (all.brass[g] == NONE || all.has[g] != NONE || owner == NONE) return NOT;
        if (now.events.isFull()) return FULL;
        int brass = all.brass[g];
        all.brass[g] = NONE;
        all.handOver(owner, g);
        return now.events.add(GIVING, hand, g, p, brass, owner);
    }

    public int lose(int g) {
        if (!now.guests.knows(g)) return UNKNOWN;
        int brass = now.guests.brass[g];
        if (brass == NONE) return NOT;
        if (now.events.isFull()) return FULL;
        now.guests.brass[g] = NONE;
        return now.events.add(LOSING, NONE, g, NONE, brass, NONE);
    }

    public int event(int e, int what) {
        if (!now.events.knows(e)) return UNKNOWN;
        if (!within(what, 0, FACTS - 1)) return OUTSIDE;
        return now.events.factOf(e, what);
    }

    public int astray() {
        int set = 0;
        for (int g = 0; g < now.guests.number; g++) {
            if (now.guests.isAstray(g)) set |= 1 << g;
        }
        return set;
    }

    public int chain(int g, int i) {
        if (!now.guests.knows(g)) return UNKNOWN;
        if (!now.guests.isAstray(g)) return NOT;
        return i == NONE ? now.guests.chainLength(g) : now.guests.chainMember(g, i);
    }

    public int ring(int g) {
        if (!now.guests.knows(g)) return UNKNOWN;
        if (!now.guests.isAstray(g)) return NOT;
        return now.guests.comesRound(g) ? 1 : 0;
    }

    public int exchanges() {
        int sum = 0;
        for (int g = 0; g < now.guests.number; g++) {
            // A chain wants as many as it has astray ones; a ring, where all are, one less.
            if (now.guests.isAstray(g)) sum++;
            if (now.guests.isLeastOfRing(g)) sum--;
        }
        return sum;
    }

    public int wrong(int g, int what) {
        if (!now.guests.knows(g)) return UNKNOWN;
        if (!within(what, 0, 1)) return OUTSIDE;
        int e = now.events.firstWrong(g);
        return what == 0 ? now.events.factOf(e, 1) : e;
    }

    // ---- the rush

    public int rush(int set, int n, int what) {
        if (!allHang(set)) return UNKNOWN;
        if (!within(n, 1, HANDS) || !within(what, 0, 2)) return OUTSIDE;
        service.load(set, now.guests, theHall);
        service.serveFrom(0, n);
        switch (what) {
            case 0: return service.sumOfWaits();
            case 1: return service.greatestWait();
            default: return service.sumOfTips();
        }
    }

    public int bestRow(int set, int n, int i) {
        if (!allHang(set)) return UNKNOWN;
        if (!within(n, 1, HANDS)) return OUTSIDE;
        if (Integer.bitCount(set) > ROW_GUESTS) return NOT;
        service.load(set, now.guests, theHall);
        service.findBest(n);
        return i == NONE ? service.bestTips : service.bestMember(i);
    }

    public int wanted(int set, int w) {
        if (!allHang(set)) return UNKNOWN;
        if (!within(w, 0, LONGEST_WAIT)) return OUTSIDE;
        service.load(set, now.guests, theHall);
        for (int n = 1; n <= HANDS; n++) {
            service.serveFrom(0, n);
            if (service.greatestWait() <= w) return n;
        }
        return NONE;
    }

    // ---- claims

    public int claim(int g, int yes, int no) {
        if (!now.guests.knows(g)) return UNKNOWN;
        if (!within(yes, 0, ALL_MARKS) || !within(no, 0, ALL_MARKS) || (yes & no) != 0) return OUTSIDE;
        if (now.guests.brass[g] != NONE || now.guests.has[g] != NONE || now.claims.isOf(g)) return NOT;
        if (now.claims.number >= CLAIMS) return FULL;
        return now.claims.add(g, yes, no);
    }

    public int fits(int c) {
        if (!now.claims.knows(c)) return UNKNOWN;
        return now.claims.thingsFor(c, now.guests);
    }

    public long ways() {
        matching.load(now.claims, now.guests);
        return matching.number();
    }

    public int sure(int c) {
        if (!now.claims.knows(c)) return UNKNOWN;
        matching.load(now.claims, now.guests);
        return matching.onlyThingOf(c);
    }

    public int grant(int c) {
        if (!now.claims.knows(c)) return UNKNOWN;
        matching.load(now.claims, now.guests);
        int owner = matching.onlyThingOf(c);
        if (owner == NONE) return NOT;
        now.guests.handOver(owner, now.claims.guestOf(c));
        now.claims.remove(c);
        return owner;
    }

    public int apart(int g, int h) {
        if (!now.guests.knows(g) || !now.guests.knows(h)) return UNKNOWN;
        return now.guests.marks[g] ^ now.guests.marks[h];
    }

    public int asks(int c) {
        if (!now.claims.knows(c)) return UNKNOWN;
        return now.claims.fewestAsked(c, now.guests);
    }

    // ---- images

    public int keep(int i) {
        Image image = imageOf(i);
        if (image == null) return UNKNOWN;
        image.copyFrom(now);
        image.kept = true;
        return 1;
    }

    public int goBack(int i) {
        Image image = imageOf(i);
        if (image == null) return UNKNOWN;
        if (!image.kept) return NOT;
        now.copyFrom(image);
        return 1;
    }

    // ---- what several calls share

    private static boolean within(int x, int least, int most) {
        return x >= least && x <= most;
    }

    private static boolean isHand(int hand) {
        return within(hand, 0, HANDS - 1);
    }

    private Image imageOf(int i) {
        if (!within(i, 0, IMAGES - 1)) return null;
        return i == 0 ? imageZero : imageOne;
    }

    private int expectedOf(int g) {
        if (!now.guests.knows(g)) return 0;
        int sum = 0;
        for (int part = 0; part < PARTS; part++) {
            sum += oddsInPlace(now.guests.sort[g], part) * theHall.weightOf(part);
        }
        return sum;
    }

    private int oddsInPlace(int sort, int part) {
        if (nightPlay == NONE) return theHall.shareOf(sort, part);
        return now.nights.oddsOf(nightPlay, nightWeather, part);
    }

    private boolean mayHang(int g, int p) {
        if (now.events.find(HANGING, g) != NONE || now.claims.isOf(g)) return false;
        return theHall.isOfKind(p, now.guests.kindOf(g)) && now.guests.ownerOn(p) == NONE;
    }

    private boolean allHang(int set) {
        int hanging = 0;
        for (int g = 0; g < now.guests.number; g++) {
            if (now.guests.hangs(g)) hanging |= 1 << g;
        }
        return (set & ~hanging) == 0;
    }

    /** What a text tells: pegs, odds of each sort, weights, ticks of a service, loss of tips. */
    private static final class Hall {
        final int[] kind = new int[PEGS];
        final int[] walk = new int[PEGS];
        final int[] share = new int[SORTS * PARTS];
        final int[] weight = new int[PARTS];
        int pegs = 0;
        int ticks = 0;
        int loss = 0;

        void clear() {
            pegs = 0;
            ticks = 2;
            loss = 1;
            tellWeights(1, 2, 5);
            for (int sort = 0; sort < SORTS; sort++) tellShares(sort, 10, 20, 70);
        }

        void tellWeights(int x, int y, int z) {
            weight[0] = x;
            weight[1] = y;
            weight[2] = z;
        }

        void tellShares(int sort, int a, int b, int c) {
            if (!within(sort, 0, SORTS - 1)) return;
            share[sort * PARTS] = a;
            share[sort * PARTS + 1] = b;
            share[sort * PARTS + 2] = c;
        }

        void addRow(int n, int rowKind, int firstWalk) {
            for (int i = 0; i < n && pegs < PEGS; i++) {
                kind[pegs] = rowKind;
                walk[pegs] = firstWalk + i;
                pegs++;
            }
        }

        boolean hasPeg(int p) {
            return p >= 0 && p < pegs && p < PEGS;
        }

        boolean isOfKind(int p, int wanted) {
            return hasPeg(p) && kind[p] == wanted;
        }

        int walkOf(int p) {
            return hasPeg(p) ? walk[p] : 0;
        }

        int shareOf(int sort, int part) {
            if (!within(sort, 0, SORTS - 1) || !within(part, 0, PARTS - 1)) return 0;
            return share[sort * PARTS + part];
        }

        int weightOf(int part) {
            return within(part, 0, PARTS - 1) ? weight[part] : 0;
        }
    }

    /** THE TEXT, and the reading of it: steps go in the order of bytes, so that the first fault found is the one told. */
    private static final class Reader {
        private final byte[] text = new byte[TEXT_BYTES];
        int length = 0;
        int place = NONE;
        private int failure = 0;
        private int at = 0;
        private int firstFigure = 0;
        private int toldBefore = 0;
        // A text is read into a draft, so that a fault leaves the hall as it was.
        private Hall draft = new Hall();

        int append(int n, long bytes) {
            for (int i = n - 1; i >= 0 && length < TEXT_BYTES; i--) {
                text[length] = (byte) (bytes >>> (8 * i));
                length++;
            }
            return length;
        }

        /** The number of the fault, 0 for none; the text is empty then. */
        int read() {
            draft.clear();
            failure = 0;
            place = NONE;
            at = 0;
            toldBefore = 0;
            skipBlanks();
            for (int i = 0; i < TEXT_BYTES && failure == 0 && at < length; i++) {
                readClause();
                skipBlanks();
            }
            length = 0;
            return failure;
        }

        /** The hall as it was read last, for one that is to be written over. */
        Hall changeDraft(Hall old) {
            Hall told = draft;
            draft = old;
            return told;
        }

        private void readClause() {
            int start = at;
            if (isHere("row")) {
                readRow();
            } else if (isHere("odds")) {
                readOdds();
            } else if (isHere("weights")) {
                tellOnce(WEIGHTS_TOLD, start);
                readWeights();
            } else if (isHere("give")) {
                tellOnce(GIVE_TOLD, start);
                needWord("give");
                int ticks = needNumber(0, MOST_TICKS);
                needEnd();
                draft.ticks = ticks;
            } else if (isHere("less")) {
                tellOnce(LESS_TOLD, start);
                needWord("less");
                int loss = needNumber(0, MOST_LOSS);
                needEnd();
                draft.loss = loss;
            } else {
                fail(CANNOT_STAND, start);
            }
        }

        private void readRow() {
            needWord("row");
            int n = needNumber(1, PEGS);
            if (draft.pegs + n > PEGS) fail(TOO_MANY_PEGS, firstFigure);
            needWord("kind");
            int rowKind = needNumber(0, KINDS - 1);
            needWord("walk");
            int firstWalk = needNumber(0, MOST_WALK);
            needEnd();
            if (failure == 0) draft.addRow(n, rowKind, firstWalk);
        }

        private void readOdds() {
            needWord("odds");
            int sort = needNumber(0, SORTS - 1);
            tellOnce(1 << sort, firstFigure);
            int a = needNumber(0, HUNDRED);
            int b = needNumber(0, HUNDRED);
            int c = needNumber(0, HUNDRED);
            if (a + b + c != HUNDRED) fail(NOT_HUNDRED, firstFigure);
            needEnd();
            draft.tellShares(sort, a, b, c);
        }

        private void readWeights() {
            needWord("weights");
            int x = needNumber(0, MOST_WEIGHT);
            int y = needNumber(0, MOST_WEIGHT);
            int z = needNumber(0, MOST_WEIGHT);
            needEnd();
            draft.tellWeights(x, y, z);
        }

        private void tellOnce(int bit, int where) {
            if ((toldBefore & bit) != 0) fail(TOLD_ALREADY, where);
            toldBefore |= bit;
        }

        private void fail(int number, int where) {
            if (failure != 0) return;
            failure = number;
            place = where;
        }

        private void skipBlanks() {
            while (at < length && byteAt(at) == ' ') at++;
        }

        private int byteAt(int i) {
            return i >= 0 && i < length && i < TEXT_BYTES ? text[i] & 255 : NONE;
        }

        private boolean isFigure(int i) {
            return within(byteAt(i), '0', '9');
        }

        private boolean isHere(String word) {
            for (int i = 0; i < word.length(); i++) {
                if (byteAt(at + i) != word.charAt(i)) return false;
            }
            // A letter more makes it another word.
            int behind = byteAt(at + word.length());
            return behind < 'a' || behind > 'z';
        }

        private void needWord(String word) {
            skipBlanks();
            if (isHere(word)) at += word.length();
            else fail(CANNOT_STAND, at);
        }

        private void needEnd() {
            skipBlanks();
            if (byteAt(at) == ';') at++;
            else fail(CANNOT_STAND, at);
        }

        private int needNumber(int least, int most) {
            skipBlanks();
            firstFigure = at;
            int value = 0;
            // Figures beyond the third are passed over unread, so that the value stays small.
            while (at < length && isFigure(at)) {
                if (at - firstFigure < 3) value = value * 10 + byteAt(at) - '0';
                at++;
            }
            if (at == firstFigure) fail(CANNOT_STAND, firstFigure);
            else if (at - firstFigure > 3 || !within(value, least, most)) fail(BAD_NUMBER, firstFigure);
            return value;
        }
    }

    /** Who there is, and who has what: things, brass numbers, pegs. */
    private static final class Guests {
        int number = 0;
        final int[] sort = new int[GUESTS];
        final int[] kind = new int[GUESTS];
        final int[] tip = new int[GUESTS];
        final int[] marks = new int[GUESTS];
        final int[] brass = new int[GUESTS];
        final int[] peg = new int[GUESTS];
        final int[] has = new int[GUESTS];

        void copyFrom(Guests other) {
            number = other.number;
            System.arraycopy(other.sort, 0, sort, 0, GUESTS);
            System.arraycopy(other.kind, 0, kind, 0, GUESTS);
            System.arraycopy(other.tip, 0, tip, 0, GUESTS);
            System.arraycopy(other.marks, 0, marks, 0, GUESTS);
            System.arraycopy(other.brass, 0, brass, 0, GUESTS);
            System.arraycopy(other.peg, 0, peg, 0, GUESTS);
            System.arraycopy(other.has, 0, has, 0, GUESTS);
        }

        boolean knows(int g) {
            return g >= 0 && g < number && g < GUESTS;
        }

        int add(int itsSort, int itsKind, int itsTip, int itsMarks) {
            int g = number;
            if (g < 0 || g >= GUESTS) return FULL;
            sort[g] = itsSort;
            kind[g] = itsKind;
            tip[g] = itsTip;
            marks[g] = itsMarks;
            brass[g] = NONE;
            peg[g] = NONE;
            has[g] = NONE;
            number++;
            return g;
        }

        int kindOf(int g) {
            return knows(g) ? kind[g] : NONE;
        }

        int marksOf(int g) {
            return knows(g) ? marks[g] : 0;
        }

        boolean hangs(int g) {
            return knows(g) && peg[g] != NONE;
        }

        int ownerOn(int p) {
            for (int g = 0; g < number; g++) {
                if (peg[g] == p) return g;
            }
            return NONE;
        }

        int holderOf(int owner) {
            for (int g = 0; g < number; g++) {
                if (has[g] == owner) return g;
            }
            return NONE;
        }

        boolean brassIsOut(int b) {
            for (int g = 0; g < number; g++) {
                if (brass[g] == b) return true;
            }
            return false;
        }

        void handOver(int owner, int taker) {
            if (!knows(owner) || !knows(taker)) return;
            peg[owner] = NONE;
            has[taker] = owner;
        }

        boolean isAstray(int g) {
            return knows(g) && has[g] != NONE && has[g] != g;
        }

        /** The one behind g in the chain from start; NONE where it ends or comes round. */
        private int nextInChain(int start, int g) {
            return knows(g) && has[g] != start ? has[g] : NONE;
        }

        int chainLength(int start) {
            int g = start;
            int length = 0;
            while (g != NONE && length < GUESTS) {
                g = nextInChain(start, g);
                length++;
            }
            return length;
        }

        int chainMember(int start, int i) {
            if (i < 0) return NONE;
            int g = start;
            for (int steps = 0; steps < i && g != NONE; steps++) g = nextInChain(start, g);
            return g;
        }

        boolean comesRound(int start) {
            int last = chainMember(start, chainLength(start) - 1);
            return knows(last) && has[last] == start;
        }

        /** Whether start counts for its ring, so that each ring is counted once. */
        boolean isLeastOfRing(int start) {
            if (!isAstray(start) || !comesRound(start)) return false;
            int g = start;
            for (int steps = 0; steps < GUESTS && g >= start; steps++) g = nextInChain(start, g);
            return g == NONE;
        }
    }

    /** Events, seven facts of each side by side, in the order in which the document tells them. */
    private static final class Events {
        int number = 0;
        private final int[] facts = new int[EVENTS * FACTS];

        void copyFrom(Events other) {
            number = other.number;
            System.arraycopy(other.facts, 0, facts, 0, facts.length);
        }

        boolean knows(int e) {
            return e >= 0 && e < number && e < EVENTS;
        }

        boolean isFull() {
            return number >= EVENTS;
        }

        int add(int kind, int hand, int g, int p, int brass, int thing) {
            if (number < 0 || isFull()) return FULL;
            int e = number;
            int base = e * FACTS;
            facts[base] = kind;
            facts[base + 1] = hand;
            facts[base + 2] = g;
            facts[base + 3] = p;
            facts[base + 4] = brass;
            facts[base + 5] = thing;
            facts[base + 6] = kind != LOSING && p != brass ? 1 : 0;
            number++;
            return e;
        }

        int factOf(int e, int what) {
            if (!knows(e) || !within(what, 0, FACTS - 1)) return NONE;
            return facts[e * FACTS + what];
        }

        /** The hanging or giving of a thing: of each there is one at most. */
        int find(int kind, int thing) {
            for (int e = 0; e < number; e++) {
                if (factOf(e, 0) == kind && factOf(e, 5) == thing) return e;
            }
            return NONE;
        }

        private boolean wasWrong(int e) {
            return factOf(e, 6) == 1;
        }

        int firstWrong(int thing) {
            int hanging = find(HANGING, thing);
            if (wasWrong(hanging)) return hanging;
            int giving = find(GIVING, thing);
            if (giving == NONE) return NONE;
            if (wasWrong(giving)) return giving;
            int takersHanging = find(HANGING, factOf(giving, 2));
            return wasWrong(takersHanging) ? takersHanging : NONE;
        }
    }

    /** Claims, and what each fits. */
    private static final class Claims {
        int number = 0;
        private final int[] guest = new int[CLAIMS];
        private final int[] yes = new int[CLAIMS];
        private final int[] no = new int[CLAIMS];

        void copyFrom(Claims other) {
            number = other.number;
            System.arraycopy(other.guest, 0, guest, 0, CLAIMS);
            System.arraycopy(other.yes, 0, yes, 0, CLAIMS);
            System.arraycopy(other.no, 0, no, 0, CLAIMS);
        }

        boolean knows(int c) {
            return c >= 0 && c < number && c < CLAIMS;
        }

        boolean isOf(int g) {
            for (int c = 0; c < number; c++) {
                if (guest[c] == g) return true;
            }
            return false;
        }

        int guestOf(int c) {
            return knows(c) ? guest[c] : NONE;
        }

        int add(int g, int has, int hasNot) {
            int c = number;
            if (c < 0 || c >= CLAIMS) return FULL;
            guest[c] = g;
            yes[c] = has;
            no[c] = hasNot;
            number++;
            return c;
        }

        void remove(int c) {
            if (!knows(c)) return;
            for (int i = c; i + 1 < number && i + 1 < CLAIMS; i++) {
                guest[i] = guest[i + 1];
                yes[i] = yes[i + 1];
                no[i] = no[i + 1];
            }
            number--;
        }

        int thingsFor(int c, Guests all) {
            if (!knows(c)) return 0;
            int set = 0;
            int kind = all.kindOf(guest[c]);
            for (int t = 0; t < all.number; t++) {
                boolean marked = (yes[c] & ~all.marksOf(t)) == 0 && (no[c] & all.marksOf(t)) == 0;
                if (marked && all.hangs(t) && all.kindOf(t) == kind) set |= 1 << t;
            }
            return set;
        }

        int fewestAsked(int c, Guests all) {
            int things = thingsFor(c, all);
            int own = all.marksOf(guestOf(c));
            int best = NONE;
            for (int marks = 0; marks <= ALL_MARKS; marks++) {
                boolean fewer = best == NONE || Integer.bitCount(marks) < Integer.bitCount(best);
                if (fewer && howManyAgree(things, own, marks, all) == 1) best = marks;
            }
            return best;
        }

        private static int howManyAgree(int things, int own, int marks, Guests all) {
            int agree = 0;
            for (int t = 0; t < all.number; t++) {
                if ((things >> t & 1) == 1 && ((all.marksOf(t) ^ own) & marks) == 0) agree++;
            }
            return agree;
        }
    }

    /** Of past nights only the sums for each play and weather are ever asked. */
    private static final class Nights {
        int number = 0;
        private final int[] left = new int[PLAYS * WEATHERS * PARTS];

        void copyFrom(Nights other) {
            number = other.number;
            System.arraycopy(other.left, 0, left, 0, left.length);
        }

        int add(int play, int weather, int early, int pause, int end) {
            if (!within(play, 0, PLAYS - 1) || !within(weather, 0, WEATHERS - 1)) return OUTSIDE;
            int base = (play * WEATHERS + weather) * PARTS;
            left[base] += early;
            left[base + 1] += pause;
            left[base + 2] += end;
            number++;
            return number;
        }

        int oddsOf(int play, int weather, int part) {
            if (!within(play, 0, PLAYS - 1) || !within(weather, 0, WEATHERS - 1)) return 0;
            int base = (play * WEATHERS + weather) * PARTS;
            int all = left[base] + left[base + 1] + left[base + 2] + 3;
            if (all <= 0) return 0;
            int early = THOUSAND * (left[base] + 1) / all;
            int pause = THOUSAND * (left[base + 1] + 1) / all;
            if (part == 0) return early;
            return part == 1 ? pause : THOUSAND - early - pause;
        }
    }

    /** What images keep; what is so now has the same form. */
    private static final class Image {
        final Guests guests = new Guests();
        final Events events = new Events();
        final Claims claims = new Claims();
        final Nights nights = new Nights();
        boolean kept = false;

        void copyFrom(Image other) {
            guests.copyFrom(other.guests);
            events.copyFrom(other.events);
            claims.copyFrom(other.claims);
            nights.copyFrom(other.nights);
        }
    }

    /** Pegs for all guests. Both plans give the least walk that is left; they differ in who comes first. */
    private static final class Plan {
        final int[] expected = new int[GUESTS];
        private final int[] pegFor = new int[GUESTS];
        private final boolean[] taken = new boolean[PEGS];
        int sum = 0;

        int pegOf(int g) {
            return within(g, 0, GUESTS - 1) ? pegFor[g] : NONE;
        }

        boolean make(boolean habit, Guests all, Hall hall) {
            sum = 0;
            for (int p = 0; p < PEGS; p++) taken[p] = false;
            for (int g = 0; g < GUESTS; g++) pegFor[g] = NONE;
            for (int i = 0; i < all.number; i++) {
                int g = habit ? i : greatestLeft(all);
                int p = leastWalkLeft(all.kindOf(g), hall);
                if (!all.knows(g) || !hall.hasPeg(p)) return false;
                pegFor[g] = p;
                taken[p] = true;
                sum += expected[g] * hall.walkOf(p);
            }
            return true;
        }

        private int greatestLeft(Guests all) {
            int best = NONE;
            for (int g = 0; g < all.number; g++) {
                if (pegFor[g] == NONE && (best == NONE || expected[g] > expected[best])) best = g;
            }
            return best;
        }

        private int leastWalkLeft(int kind, Hall hall) {
            int best = NONE;
            for (int p = 0; p < hall.pegs; p++) {
                boolean free = !taken[p] && hall.isOfKind(p, kind);
                if (free && (best == NONE || hall.walk[p] < hall.walk[best])) best = p;
            }
            return best;
        }
    }

    /** A row of guests that is served; what is so before each place is kept, so that a new ending is served alone. */
    private static final class Rush {
        private final int[] ticks = new int[GUESTS];
        private final int[] tip = new int[GUESTS];
        private final int[] row = new int[GUESTS];
        private final int[] freeAt = new int[(GUESTS + 1) * HANDS];
        private final int[] waits = new int[GUESTS + 1];
        private final int[] greatest = new int[GUESTS + 1];
        private final int[] tips = new int[GUESTS + 1];
        private final int[] best = new int[ROW_GUESTS];
        private int size = 0;
        private int loss = 0;
        int bestTips = 0;
        private int bestWaits = 0;

        /** The guests of the set in a row, by numbers. */
        void load(int set, Guests all, Hall hall) {
            size = 0;
            loss = hall.loss;
            for (int g = 0; g < all.number; g++) {
                if ((set >> g & 1) == 1) {
                    ticks[g] = 2 * hall.walkOf(all.peg[g]) + hall.ticks;
                    tip[g] = all.tip[g];
                    row[size] = g;
                    size++;
                }
            }
        }

        int sumOfWaits() {
            return waits[size];
        }

        int greatestWait() {
            return greatest[size];
        }

        int sumOfTips() {
            return tips[size];
        }

        int bestMember(int i) {
            return i >= 0 && i < size && i < ROW_GUESTS ? best[i] : NONE;
        }

        void serveFrom(int from, int hands) {
            if (from < 0 || hands < 1 || hands > HANDS) return;
            for (int i = from; i < size; i++) serve(i, hands);
        }

        private void serve(int i, int hands) {
            int base = i * HANDS;
            int hand = 0;
            for (int h = 0; h < hands; h++) {
                if (freeAt[base + h] < freeAt[base + hand]) hand = h;
                freeAt[base + HANDS + h] = freeAt[base + h];
            }
            int g = row[i];
            if (!within(g, 0, GUESTS - 1)) return;
            int wait = freeAt[base + hand] + ticks[g];
            freeAt[base + HANDS + hand] = wait;
            waits[i + 1] = waits[i] + wait;
            greatest[i + 1] = Math.max(greatest[i], wait);
            tips[i + 1] = tips[i] + Math.max(0, tip[g] - loss * wait / 10);
        }

        void findBest(int hands) {
            serveFrom(0, hands);
            keepAsBest();
            for (int rows = 1; rows < ROWS; rows++) {
                int changed = toNextRow();
                if (changed == NONE) return;
                serveFrom(changed, hands);
                // Rows come in their order, so of like ones the first stays.
                boolean likeTips = sumOfTips() == bestTips;
                if (sumOfTips() > bestTips || likeTips && sumOfWaits() < bestWaits) keepAsBest();
            }
        }

        private void keepAsBest() {
            bestTips = sumOfTips();
            bestWaits = sumOfWaits();
            for (int i = 0; i < size && i < ROW_GUESTS; i++) best[i] = row[i];
        }

        /** The first place that changes; NONE after the last row. */
        private int toNextRow() {
            int i = size - 2;
            while (i >= 0 && row[i] > row[i + 1]) i--;
            if (i < 0) return NONE;
            int j = size - 1;
            while (j > i && row[j] < row[i]) j--;
            swap(i, j);
            for (int a = i + 1, b = size - 1; a < b; a++, b--) swap(a, b);
            return i;
        }

        private void swap(int a, int b) {
            if (!within(a, 0, GUESTS - 1) || !within(b, 0, GUESTS - 1)) return;
            int kept = row[a];
            row[a] = row[b];
            row[b] = kept;
        }
    }

    /** In how many ways claims can have things: thing by thing, for each set of claims that have theirs by then. */
    private static final class Matching {
        private final int[] fitting = new int[CLAIMS];
        private final long[] waysOf = new long[1 << CLAIMS];
        private int claims = 0;

        void load(Claims all, Guests guests) {
            claims = Math.min(all.number, CLAIMS);
            for (int c = 0; c < claims; c++) fitting[c] = all.thingsFor(c, guests);
        }

        long number() {
            int all = (1 << claims) - 1;
            int things = 0;
            for (int c = 0; c < claims; c++) things |= fitting[c];
            for (int set = 0; set <= all; set++) waysOf[set] = 0;
            waysOf[0] = 1;
            for (int t = 0; t < GUESTS; t++) {
                if ((things >> t & 1) == 0) continue;
                // The greater sets first: they grow from lesser ones that have not had this thing yet.
                for (int set = all; set > 0; set--) addWays(set, t);
            }
            return waysOf[all];
        }

        private void addWays(int set, int t) {
            for (int c = 0; c < claims; c++) {
                boolean takes = (set >> c & 1) == 1 && (fitting[c] >> t & 1) == 1;
                if (takes) waysOf[set] += waysOf[set ^ 1 << c];
            }
        }

        /** The thing that a claim has in all ways; NONE. The rows loaded are used up. */
        int onlyThingOf(int c) {
            if (!within(c, 0, claims - 1)) return NONE;
            if (number() == 0) return NONE;
            int things = fitting[c];
            int only = NONE;
            for (int t = 0; t < GUESTS; t++) {
                if ((things >> t & 1) == 0) continue;
                fitting[c] = 1 << t;
                if (number() == 0) continue;
                if (only != NONE) return NONE;
                only = t;
            }
            return only;
        }
    }
}
