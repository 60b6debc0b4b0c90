/** Part 5 and promises 26 to 32, sentence by sentence. */
public final class ClaimEdgesTest {
    private static final int NONE = -1, UNKNOWN = -1001, OUTSIDE = -1002, NOT = -1003, FULL = -1004;
    private static final int LEAST = Integer.MIN_VALUE, MOST = Integer.MAX_VALUE;

    public static void main(String[] args) {
        claimNumbers();
        guestWithoutBrass();
        claimUnknown();
        marksOfAClaim();
        claimNot();
        sixClaims();
        fitsWhatHangs();
        fitsItsKind();
        fitsMarks();
        ownersOfWhatFits();
        noSuchClaim();
        oneWayWithoutClaims();
        waysToHaveThings();
        noWays();
        mostWays();
        sureInAllWays();
        sureNone();
        givenWhatIsSure();
        laterOnes();
        grantNot();
        grantFirstAndLast();
        marksApart();
        apartUnknown();
        fewestMarks();
        leastOfLikeSets();
        nothingToAsk();
        asksNone();
        asItHas();
        Due.end();
    }

    /** Pegs 0 to 15 dry, 16 to 19 wet, 20 to 23 for hats. Guests with these marks, each dry thing on its own peg; the first ones lose their brass. */
    private static CoatsHall lost(int losers, int... marks) {
        CoatsHall x = Due.withHall("row 16 kind 0 walk 0;row 4 kind 1 walk 0;row 4 kind 2 walk 0;");
        for (int g = 0; g < marks.length; g++) {
            x.guest(0, 0, 0, marks[g]);
            x.hang(0, g, g, g);
        }
        for (int g = 0; g < losers; g++) x.lose(g);
        return x;
    }

    private static int[] like(int marks, int howMany) {
        int[] all = new int[howMany];
        for (int g = 0; g < howMany; g++) all[g] = marks;
        return all;
    }

    // ---- claim

    private static void claimNumbers() {
        Due.says("26: A CLAIM: its number");
        CoatsHall x = lost(6, like(0, 6));
        int[] guests = {5, 0, 3, 1, 4, 2};
        for (int c = 0; c < 6; c++) {
            Due.is("of " + guests[c], x.claim(guests[c], 0, 0), c);
            Due.is("how many", x.count(3), c + 1);
        }
    }

    private static void guestWithoutBrass() {
        Due.says("part 5: A CLAIM (6 at most) is of a GUEST without BRASS");
        CoatsHall x = lost(2, like(0, 3));
        x.guest(0, 2, 0, 0);
        Due.is("who has lost it", x.claim(1, 0, 0), 0);
        Due.is("who has it", x.claim(2, 0, 0), NOT);
        Due.is("who never had any", x.claim(3, 0, 0), 1);
        x.give(0, 2, 0);
        Due.is("whose THING another HAS", x.claim(0, 0, 0), 2);
    }

    private static void claimUnknown() {
        Due.says("26: UNKNOWN");
        Due.is("nobody", new CoatsHall().claim(0, 0, 0), UNKNOWN);
        CoatsHall x = lost(2, 0, 0);
        for (int g : new int[] {-1, 2, 16, MOST, LEAST}) Due.is("claim of " + g, x.claim(g, 0, 0), UNKNOWN);
    }

    private static void marksOfAClaim() {
        Due.says("26: OUTSIDE (MARKS 0 .. 255, both; some in both)");
        CoatsHall x = lost(6, like(170, 6));
        for (int bad : new int[] {-1, 256, MOST, LEAST}) {
            Due.is("yes " + bad, x.claim(0, bad, 0), OUTSIDE);
            Due.is("no " + bad, x.claim(0, 0, bad), OUTSIDE);
        }
        for (int mark = 0; mark < 8; mark++) Due.is("mark " + mark + " in both", x.claim(0, 1 << mark, 1 << mark), OUTSIDE);
        Due.is("all in both", x.claim(0, 255, 255), OUTSIDE);
        Due.is("one of many in both", x.claim(0, 0b10001111, 0b11110000), OUTSIDE);
        Due.is("no CLAIM", x.count(3), 0);
        Due.is("none in both", x.claim(0, 0b10101010, 0b01010101), 0);
        Due.is("none at all", x.claim(1, 0, 0), 1);
        Due.is("all had", x.claim(2, 255, 0), 2);
        Due.is("none had", x.claim(3, 0, 255), 3);
        int[] due = {0b111111, 0b111111, 0, 0};
        for (int c = 0; c < 4; c++) Due.is("fits(" + c + ")", x.fits(c), due[c]);
    }

    private static void claimNot() {
        Due.says("26: NOT: the GUEST has BRASS, HAS something or a CLAIM already");
        CoatsHall x = lost(2, 1, 2, 4, 8);
        Due.is("has BRASS", x.claim(2, 0, 0), NOT);
        x.give(0, 2, 2);
        Due.is("HAS its own", x.claim(2, 0, 0), NOT);
        x.give(0, 3, 0);
        Due.is("HAS another's", x.claim(3, 0, 0), NOT);
        Due.is("claim", x.claim(0, 2, 0), 0);
        Due.is("a CLAIM already", x.claim(0, 2, 0), NOT);
        Due.is("with other MARKS", x.claim(0, 0, 2), NOT);
        Due.is("granted", x.grant(0), 1);
        Due.is("HAS what was granted", x.claim(0, 0, 0), NOT);
        Due.is("none is left", x.count(3), 0);
    }

    private static void sixClaims() {
        Due.says("part 5: A CLAIM (6 at most); 26: FULL");
        CoatsHall x = lost(8, 1, 0, 0, 0, 0, 0, 0, 0);
        for (int g = 0; g < 6; g++) Due.is("CLAIM " + g, x.claim(g, g == 0 ? 1 : 0, 0), g);
        x.keep(0);
        Due.is("a seventh", x.claim(6, 0, 0), FULL);
        Due.is("six", x.count(3), 6);
        Due.is("no such CLAIM", x.fits(6), UNKNOWN);
        Due.is("one is granted", x.grant(0), 0);
        Due.is("there is room", x.claim(6, 0, 0), 5);
        Due.is("for one", x.claim(7, 0, 0), FULL);
        x.goBack(0);
        Due.is("six again", x.claim(6, 0, 0), FULL);
    }

    // ---- fits

    private static void fitsWhatHangs() {
        Due.says("part 5: It FITS a THING that hangs");
        CoatsHall x = lost(1, like(0, 4));
        x.guest(0, 0, 0, 0);
        x.claim(0, 0, 0);
        Due.is("4's is not hung", x.fits(0), 0b01111);
        x.hang(0, 4, 4, 4);
        Due.is("it is", x.fits(0), 0b11111);
        x.give(0, 1, 2);
        Due.is("2's is given", x.fits(0), 0b11011);
        x.lose(3);
        Due.is("3's BRASS is lost: it hangs still", x.fits(0), 0b11011);
        x.give(0, 2, 0);
        Due.is("its own is given", x.fits(0), 0b11010);
    }

    private static void fitsItsKind() {
        Due.says("part 5: is of the KIND of the GUEST's own");
        CoatsHall x = lost(0);
        int[] pegs = {0, 16, 20};
        for (int g = 0; g < 9; g++) x.guest(0, g % 3, 0, 0);
        for (int g = 3; g < 9; g++) x.hang(0, g, pegs[g % 3] + g / 3, g);
        for (int g = 0; g < 3; g++) {
            x.claim(g, 0, 0);
            Due.is("of KIND " + g, x.fits(g), 0b001001000 << g);
        }
    }

    private static void fitsMarks() {
        Due.says("part 5: and has all the former, none of the latter");
        for (int mark = 0; mark < 8; mark++) {
            CoatsHall x = lost(6, 0, 255, 1 << mark, 255 & ~(1 << mark), 3 << mark & 255, 0);
            int[][] claims = {{1 << mark, 0}, {0, 1 << mark}, {255, 0}, {0, 255}, {1 << mark, 255 & ~(1 << mark)}, {255 & ~(1 << mark), 1 << mark}};
            int both = mark == 7 ? 0b010000 : 0;
            int[] due = {0b010110, 0b101001, 0b000010, 0b100001, 0b000100 | both, 0b001000};
            for (int c = 0; c < 6; c++) {
                x.claim(c, claims[c][0], claims[c][1]);
                Due.is("mark " + mark + ", CLAIM " + c, x.fits(c), due[c]);
            }
        }
    }

    private static void ownersOfWhatFits() {
        Due.says("27: THINGS that a CLAIM FITS: the SET of their OWNERS");
        CoatsHall x = lost(1, like(0, 16));
        x.claim(0, 0, 0);
        Due.is("all sixteen", x.fits(0), 0xffff);
        x.give(0, 1, 15);
        Due.is("by OWNERS, not by who HAS them", x.fits(0), 0x7fff);
        x.give(0, 2, 0);
        Due.is("without the first", x.fits(0), 0x7ffe);
        CoatsHall y = lost(0);
        for (int g = 0; g < 3; g++) y.guest(0, 0, 0, 0);
        y.hang(0, 2, 15, 9);
        y.claim(0, 0, 0);
        Due.is("neither PEG nor BRASS", y.fits(0), 1 << 2);
    }

    private static void noSuchClaim() {
        Due.says("27, 29, 30, 32: UNKNOWN");
        CoatsHall x = lost(2, 1, 2);
        for (int claims = 0; claims < 2; claims++) {
            for (int c : new int[] {claims, -1, 5, 6, MOST, LEAST}) {
                Due.is("fits(" + c + ")", x.fits(c), UNKNOWN);
                Due.is("sure(" + c + ")", x.sure(c), UNKNOWN);
                Due.is("grant(" + c + ")", x.grant(c), UNKNOWN);
                Due.is("asks(" + c + ")", x.asks(c), UNKNOWN);
            }
            x.claim(0, 1, 0);
        }
        Due.is("grant(0)", x.grant(0), 0);
        Due.is("gone", x.fits(0), UNKNOWN);
    }

    // ---- ways

    private static void oneWayWithoutClaims() {
        Due.says("part 5: WAYS: .. (1 without CLAIMS)");
        Due.is("a new object", new CoatsHall().ways(), 1);
        CoatsHall x = lost(1, like(0, 16));
        Due.is("things that hang", x.ways(), 1);
        x.claim(0, 0, 0);
        Due.is("a CLAIM", x.ways(), 16);
        CoatsHall y = lost(1, 1);
        y.claim(0, 1, 0);
        y.grant(0);
        Due.is("the CLAIM is gone", y.ways(), 1);
    }

    private static void waysToHaveThings() {
        Due.says("part 5: WAYS: in how many ways all CLAIMS can have THINGS that they FIT, each THING once");
        CoatsHall x = lost(3, 1, 1, 3, 2);
        x.claim(0, 1, 0);
        Due.is("one of three", x.ways(), 3);
        x.claim(1, 1, 0);
        Due.is("two of three", x.ways(), 6);
        x.claim(2, 2, 0);
        // 3's with any two of the three, 2's with the other two.
        Due.is("and 2's or 3's", x.ways(), 6 + 2);
        x.give(0, 3, 2);
        Due.is("2's is given", x.ways(), 2);
    }

    private static void noWays() {
        Due.says("part 5: in how many ways (0: one FITS nothing, or too many want too few)");
        CoatsHall x = lost(3, 1, 1, 2);
        x.claim(0, 4, 0);
        Due.is("it FITS nothing", x.ways(), 0);
        CoatsHall y = lost(3, 1, 1, 2);
        for (int g = 0; g < 3; g++) y.claim(g, 1, 0);
        Due.is("three want two", y.ways(), 0);
        Due.is("as many as THINGS", lostAndClaimed(6, 6).ways(), 720);
    }

    private static CoatsHall lostAndClaimed(int claims, int things) {
        CoatsHall x = lost(claims, like(0, things));
        for (int g = 0; g < claims; g++) x.claim(g, 0, 0);
        return x;
    }

    private static void mostWays() {
        Due.says("28: WAYS (the most)");
        long due = 1;
        for (int claims = 0; claims <= 6; claims++) {
            Due.is(claims + " CLAIMS", lostAndClaimed(claims, 16).ways(), due);
            due *= 16 - claims;
        }
    }

    // ---- sure, grant

    private static void sureInAllWays() {
        Due.says("part 5: SURE is a CLAIM, if there are WAYS and it has the same THING in all");
        CoatsHall x = lost(3, 1, 3, 3, 16);
        x.claim(0, 1, 0);
        Due.is("three it can be", x.sure(0), NONE);
        x.claim(1, 2, 0);
        Due.is("two of them may go", x.sure(0), NONE);
        x.claim(2, 3, 0);
        Due.is("the other two take theirs", x.sure(0), 0);
        Due.is("they are not SURE", x.sure(1), NONE);
        Due.is("they are not SURE", x.sure(2), NONE);
        CoatsHall y = lostAndClaimed(1, 1);
        Due.is("one THING", y.sure(0), 0);
        CoatsHall z = lost(1, like(1, 16));
        z.claim(0, 1, 0);
        for (int g = 1; g < 15; g++) z.give(0, g, g);
        Due.is("the first and the last", z.sure(0), NONE);
        z.give(0, 15, 0);
        Due.is("the last", z.sure(0), 15);
        CoatsHall w = lost(6, 1, 3, 7, 15, 31, 63);
        for (int g = 0; g < 6; g++) w.claim(g, (2 << g) - 1, 0);
        for (int g = 0; g < 6; g++) Due.is("one by the next", w.sure(g), g);
        Due.is("one way", w.ways(), 1);
    }

    private static void sureNone() {
        Due.says("29: NONE");
        CoatsHall x = lost(3, 1, 2, 2);
        x.claim(0, 1, 0);
        Due.is("alone", x.sure(0), 0);
        x.claim(1, 4, 0);
        Due.is("no WAYS: another FITS nothing", x.sure(0), NONE);
        Due.is("it FITS nothing", x.sure(1), NONE);
        CoatsHall y = lost(2, 1, 2);
        y.claim(0, 1, 0);
        y.claim(1, 1, 0);
        Due.is("both want one", y.sure(0), NONE);
        Due.is("both want one", y.sure(1), NONE);
        Due.is("nothing hangs", notHung().sure(0), NONE);
    }

    private static CoatsHall notHung() {
        CoatsHall x = new CoatsHall();
        x.guest(0, 0, 0, 0);
        x.claim(0, 0, 0);
        return x;
    }

    private static void givenWhatIsSure() {
        Due.says("30: What is SURE is given to the GUEST of a CLAIM (no EVENT): .. whose it was");
        CoatsHall x = lost(2, 1, 2, 4);
        x.claim(1, 4, 0);
        int events = x.count(2);
        Due.is("whose it was", x.grant(0), 2);
        Due.is("no EVENT", x.count(2), events);
        Due.is("who HAS it", x.told(2, 6), 1);
        Due.is("whose it HAS", x.told(1, 7), 2);
        Due.is("its PEG", x.told(2, 5), NONE);
        Due.is("the PEG is free", x.peg(2, 2), NONE);
        Due.is("2's BRASS stays", x.told(2, 4), 2);
        Due.is("1 is ASTRAY", x.astray(), 2);
        Due.is("nothing for 2's BRASS there", x.give(0, 2, 2), NOT);
        x.claim(0, 1, 0);
        Due.is("its own", x.grant(0), 0);
        Due.is("not ASTRAY", x.astray(), 2);
        CoatsHall y = lost(0, 0);
        y.guest(0, 0, 0, 0);
        y.claim(1, 0, 0);
        Due.is("to one that has hung nothing", y.grant(0), 0);
    }

    private static void laterOnes() {
        Due.says("30: the CLAIM is gone, later ones have one number less");
        for (int gone = 0; gone < 6; gone++) {
            CoatsHall x = lost(6, 1, 2, 4, 8, 16, 32, 64);
            // By turns told by what it has and by what it has not: each FITS its own alone.
            for (int c = 0; c < 6; c++) x.claim(5 - c, c % 2 == 0 ? 32 >> c : 0, c % 2 == 0 ? 0 : 127 ^ 32 >> c);
            Due.is("grant(" + gone + ")", x.grant(gone), 5 - gone);
            Due.is("five", x.count(3), 5);
            Due.is("no sixth", x.fits(5), UNKNOWN);
            for (int c = 0; c < 5; c++) {
                int before = c < gone ? c : c + 1;
                Due.is("fits(" + c + ")", x.fits(c), 32 >> before);
                Due.is("sure(" + c + ")", x.sure(c), 5 - before);
            }
            for (int g = 0; g < 6; g++) Due.is("each has a CLAIM or its THING", x.claim(g, 0, 0), NOT);
            for (int c = 4; c >= 0; c--) {
                int before = c < gone ? c : c + 1;
                Due.is("grant(" + c + ")", x.grant(c), 5 - before);
                Due.is("to its GUEST", x.told(5 - before, 7), 5 - before);
            }
            Due.is("none", x.count(3), 0);
        }
    }

    private static void grantNot() {
        Due.says("30: NOT: nothing is SURE");
        CoatsHall x = lostAndClaimed(2, 2);
        Due.is("two for two", x.grant(0), NOT);
        Due.is("two for two", x.grant(1), NOT);
        Due.is("nothing hangs", notHung().grant(0), NOT);
        CoatsHall y = lost(2, 1, 1);
        y.claim(0, 1, 0);
        y.claim(1, 4, 0);
        Due.is("no WAYS", y.grant(0), NOT);
        Due.is("no WAYS", y.grant(1), NOT);
        Due.is("both are there", y.count(3), 2);
    }

    private static void grantFirstAndLast() {
        Due.says("30: What is SURE is given (and SURE may then be others, or no more)");
        CoatsHall x = lost(2, 1, 3);
        x.claim(0, 1, 0);
        x.claim(1, 2, 0);
        Due.is("what the other leaves", x.grant(0), 0);
        Due.is("the other's number is 0", x.grant(0), 1);
        Due.is("none", x.grant(0), UNKNOWN);
        Due.is("all right", x.astray(), 0);
    }

    // ---- apart, asks

    private static void marksApart() {
        Due.says("part 5: APART: MARKS that one of two THINGS has and the other has not; 31: (one twice may be)");
        CoatsHall x = new CoatsHall();
        int[] marks = {0, 255, 0b10101010, 0b01010101, 0b00001111, 128};
        for (int g = 0; g < 6; g++) x.guest(0, g % 3, 0, marks[g]);
        for (int g = 0; g < 6; g++) for (int h = 0; h < 6; h++) Due.is("apart(" + g + ", " + h + ")", x.apart(g, h), marks[g] ^ marks[h]);
        Due.is("one twice", x.apart(1, 1), 0);
        Due.is("all", x.apart(2, 3), 255);
        CoatsHall y = lost(0, 3, 5);
        y.give(0, 0, 1);
        Due.is("whoever HAS them", y.apart(0, 1), 6);
    }

    private static void apartUnknown() {
        Due.says("31: UNKNOWN");
        CoatsHall x = new CoatsHall();
        Due.is("nobody", x.apart(0, 0), UNKNOWN);
        x.guest(0, 0, 0, 0);
        for (int bad : new int[] {-1, 1, 16, MOST, LEAST}) {
            Due.is("the second is " + bad, x.apart(0, bad), UNKNOWN);
            Due.is("the first is " + bad, x.apart(bad, 0), UNKNOWN);
            Due.is("both are " + bad, x.apart(bad, bad), UNKNOWN);
        }
    }

    private static void fewestMarks() {
        Due.says("part 5: ASKS: the fewest MARKS");
        // 128 alone parts 0's from all others, as 1 and 2 would together.
        CoatsHall x = lost(1, 0b10000011, 0b00000001, 0b00000010);
        x.claim(0, 0, 0);
        Due.is("one mark, though the greater SET", x.asks(0), 0b10000000);
        CoatsHall y = lost(1, 0b00000011, 0b00000001, 0b00000010);
        y.claim(0, 0, 0);
        Due.is("two", y.asks(0), 0b11);
        CoatsHall z = lost(1, 0, 1, 2, 4, 8, 16, 32, 64, 128);
        z.claim(0, 0, 0);
        Due.is("all eight", z.asks(0), 255);
        CoatsHall w = lost(1, 0, 1, 2, 4, 8, 16, 32, 64);
        w.claim(0, 0, 0);
        Due.is("seven", w.asks(0), 127);
    }

    private static void leastOfLikeSets() {
        Due.says("part 5: (of like ones the least SET)");
        CoatsHall x = lost(1, 0b11111111, 0);
        x.claim(0, 0, 0);
        Due.is("any of eight", x.asks(0), 1);
        CoatsHall y = lost(1, 0b01110000, 0b00000000);
        y.claim(0, 0, 0);
        Due.is("any of three", y.asks(0), 0b00010000);
        // 0's from 1's by 1 or 8, from 2's by 2 or 4: 1 and 2, 1 and 4, 2 and 8, 4 and 8.
        CoatsHall z = lost(1, 0b1111, 0b0110, 0b1001);
        z.claim(0, 0, 0);
        Due.is("the least of four", z.asks(0), 0b0011);
    }

    private static void nothingToAsk() {
        Due.says("part 5: so that .. the CLAIM would FIT one THING alone (the empty SET, if it does)");
        CoatsHall x = lost(2, 1, 2, 4);
        x.claim(0, 1, 0);
        x.claim(1, 4, 0);
        Due.is("its own alone", x.asks(0), 0);
        Due.is("another's alone", x.asks(1), 0);
    }

    private static void asksNone() {
        Due.says("32: ASKS; NONE");
        CoatsHall x = lost(2, 5, 5, 2);
        x.claim(0, 0, 0);
        x.claim(1, 8, 0);
        Due.is("two alike", x.asks(0), NONE);
        Due.is("it FITS nothing", x.asks(1), NONE);
        x.give(0, 2, 1);
        Due.is("the one like it is given: mark 0 parts the two that are left", x.asks(0), 1);
        Due.is("nothing hangs", notHung().asks(0), NONE);
    }

    private static void asItHas() {
        Due.says("part 5: if it were told of each whether the THING of a CLAIM's GUEST has them (as it has)");
        CoatsHall x = lost(0, 0b001, 0b010);
        x.guest(0, 0, 0, 0b110);
        x.claim(2, 0, 0);
        // Its own is not hung: it has 2 and not 1, as 1's.
        Due.is("what another's is like", x.asks(0), 0b001);
        CoatsHall y = lost(1, 0b000, 0b011, 0b111);
        y.claim(0, 1, 0);
        // Told wrong: its own has no mark 1, and 4 parts the two that FIT.
        Due.is("of those that it FITS", y.asks(0), 0b100);
        CoatsHall z = lost(1, 0b10, 0b01, 0b11);
        z.claim(0, 1, 0);
        Due.is("mark 2 is had: 2's", z.asks(0), 0b10);
        z.give(0, 2, 2);
        Due.is("1's alone", z.asks(0), 0);
    }
}
