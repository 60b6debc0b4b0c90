/** THE TEXT, sentence by sentence: part 1's clauses, NUMBERS, words, blanks and FAULTS, and promises 2 to 4. */
public final class TextEdgesTest {
    private static final int NONE = -1, OUTSIDE = -1002, NOT = -1003, FULL = -1004;
    private static final int LEAST = Integer.MIN_VALUE, MOST = Integer.MAX_VALUE;
    private static final String ROW_OF_15 = "row1kind0walk0;";
    private static final String[][] CLAUSES = {{"row", "2", "kind", "1", "walk", "9", ";"}, {"odds", "3", "5", "15", "80", ";"},
        {"weights", "1", "2", "3", ";"}, {"give", "4", ";"}, {"less", "4", ";"}};

    public static void main(String[] args) {
        lowestBytes();
        bytesComeBehind();
        feedOutside();
        feedFull();
        longestText();
        rowsOfPegs();
        mostPegs();
        kinds();
        walks();
        sortsAndShares();
        weights();
        giveAndLess();
        allButRowOnce();
        notTold();
        oneToThreeFigures();
        wordsAreSmallLetters();
        otherBytes();
        blanksAnywhere();
        blanksWithin();
        sideBySide();
        emptyTexts();
        cannotStand();
        endOfText();
        badNumbers();
        toldAlready();
        tooManyPegs();
        notHundred();
        firstByte();
        leastOfOneByte();
        textIsEmptyThen();
        bytesOfAnEarlierText();
        stays();
        howManyPegs();
        faultNumbers();
        allElseAsItWas();
        notWithEvents();
        placeOfTheLatest();
        Due.end();
    }

    private static CoatsHall filled(int bytes) {
        CoatsHall x = new CoatsHall();
        Due.feed(x, " ".repeat(bytes));
        return x;
    }

    // ---- feed

    private static void lowestBytes() {
        Due.says("2: The lowest n bytes (1 .. 8) of a long, the highest of these first");
        String text = "less 019;give 007;weights 0 0 0;row 2 kind 2 walk 00099;";
        for (int n = 1; n <= 8; n++) {
            CoatsHall x = new CoatsHall();
            for (int i = 0; i < text.length(); i += n) {
                String part = text.substring(i, Math.min(text.length(), i + n));
                // What stands above the lowest n bytes is not taken.
                long above = part.length() == 8 ? 0 : ';' * 0x0101010101010101L << 8 * part.length();
                Due.is("feed of " + part, x.feed(part.length(), above | Due.bytesOf(part)), i + part.length());
            }
            Due.is("hall(), " + n + " bytes a call", x.hall(), -12);
            Due.is("fault(), " + n + " bytes a call", x.fault(), text.indexOf("00099"));
        }
        CoatsHall y = new CoatsHall();
        Due.is("a long below 0", y.feed(8, -1L), 8);
        Due.is("the least long", y.feed(8, Long.MIN_VALUE), 16);
        Due.is("bytes of 255 cannot stand", y.hall(), -11);
        Due.is("the first of them", y.fault(), 0);
        Due.is("the lowest byte of -1", y.feed(1, -1L), 1);
        Due.is("it cannot stand", y.hall(), -11);
        Due.is("a ';' above", y.feed(1, (long) ';' << 8 | ' '), 1);
        Due.is("is not taken", y.hall(), 0);
    }

    private static void bytesComeBehind() {
        Due.says("2: come behind THE TEXT: how many it has");
        CoatsHall x = new CoatsHall();
        Due.is("one", x.feed(1, 'g'), 1);
        Due.is("two more", x.feed(2, Due.bytesOf("iv")), 3);
        Due.is("count(5)", x.count(5), 3);
        Due.is("four more", x.feed(4, Due.bytesOf("e 11")), 7);
        Due.is("the last", x.feed(1, ';'), 8);
        Due.is("all as one text", x.hall(), 0);
        Due.is("G", x.count(6), 11);
        Due.is("from 0 on again", x.feed(8, 0L), 8);
    }

    private static void feedOutside() {
        Due.says("2: n bytes (1 .. 8); OUTSIDE");
        CoatsHall x = new CoatsHall();
        for (int n : new int[] {0, 9, -1, 16, 240, MOST, LEAST}) Due.is("feed(" + n + ")", x.feed(n, -1L), OUTSIDE);
        Due.is("nothing came", x.count(5), 0);
        Due.is("feed(1)", x.feed(1, ' '), 1);
        Due.is("feed(8)", x.feed(8, Due.bytesOf("        ")), 9);
    }

    private static void feedFull() {
        Due.says("2: FULL (240)");
        for (int n = 1; n <= 8; n++) {
            CoatsHall x = filled(240 - n);
            Due.is("to 240 by " + n, x.feed(n, Due.bytesOf("        ")), 240);
            Due.is("one more", x.feed(1, ';'), FULL);
            Due.is(n + " more", x.feed(n, ';'), FULL);
            CoatsHall y = filled(241 - n);
            Due.is("to 241 by " + n, y.feed(n, -1L), FULL);
            Due.is("none of them came", y.count(5), 241 - n);
            Due.is("nor is one read", y.hall(), 0);
            Due.is("no FAULT", y.fault(), NONE);
        }
    }

    private static void longestText() {
        Due.says("part 1: told in a text (240 bytes at most)");
        Due.faultless(ROW_OF_15.repeat(16), 16);
        Due.faultless(" ".repeat(234) + "give7;", 0);
        Due.faulty(" ".repeat(239) + ";", 1, 239);
        Due.faulty(" ".repeat(236) + "give", 1, 240);
        Due.faulty(" ".repeat(239) + "g", 1, 239);
        Due.faulty(ROW_OF_15.repeat(15) + "row1kind0walk99", 1, 240);
        Due.faulty(" ".repeat(235) + "give7", 1, 240);
    }

    // ---- clauses

    private static void rowsOfPegs() {
        Due.says("part 1: 'row' N 'kind' K 'walk' W ';' (N PEGS more; walks W, W and 1, ..)");
        CoatsHall x = Due.withHall("row 2 kind 1 walk 98;row 1 kind 0 walk 0;row 3 kind 2 walk 7;");
        int[] kinds = {1, 1, 0, 2, 2, 2}, walks = {98, 99, 0, 7, 8, 9};
        Due.is("six PEGS", x.count(0), 6);
        for (int p = 0; p < 6; p++) {
            Due.is("KIND of " + p, x.peg(p, 0), kinds[p]);
            Due.is("walk of " + p, x.peg(p, 1), walks[p]);
        }
    }

    private static void mostPegs() {
        Due.says("part 1: 24 in all at most");
        Due.faultless("row 24 kind 0 walk 0;", 24);
        Due.faultless("row 23 kind 0 walk 0;row 1 kind 1 walk 0;", 24);
        Due.faultless("row 12 kind 0 walk 0;row 11 kind 1 walk 0;row 1 kind 2 walk 0;", 24);
        Due.faulty("row 24 kind 0 walk 0;row 1 kind 0 walk 0;", 4, 25);
        Due.faulty("row 23 kind 0 walk 0;row 2 kind 1 walk 0;", 4, 25);
    }

    private static void kinds() {
        Due.says("part 1: K 0 dry, 1 wet, 2 hats");
        for (int kind = 0; kind <= 2; kind++) {
            CoatsHall x = Due.withHall("row 1 kind " + kind + " walk 1;");
            Due.is("KIND", x.peg(0, 0), kind);
        }
        Due.faulty("row 1 kind 3 walk 1;", 2, 11);
        Due.faulty("row 1 kind 999 walk 1;", 2, 11);
    }

    private static void walks() {
        Due.says("part 1: W 0 .. 99");
        CoatsHall x = Due.withHall("row 24 kind 0 walk 99;");
        Due.is("the first", x.peg(0, 1), 99);
        Due.is("W and 1 goes on beyond 99", x.peg(23, 1), 122);
        Due.is("walk 0", Due.withHall("row 1 kind 0 walk 0;").peg(0, 1), 0);
        Due.faulty("row 1 kind 0 walk 100;", 2, 18);
        Due.faulty("row 1 kind 0 walk 999;", 2, 18);
    }

    private static void sortsAndShares() {
        Due.says("part 1: 'odds' P A B C ';' (SORT P 0 .. 3; of a hundred A leave early, B in the break, C at the end; together 100)");
        CoatsHall x = Due.withHall("odds 0 100 0 0;odds 1 0 100 0;odds 2 0 0 100;odds 3 33 33 34;");
        int[][] due = {{100, 0, 0}, {0, 100, 0}, {0, 0, 100}, {33, 33, 34}};
        for (int sort = 0; sort < 4; sort++) {
            for (int what = 0; what < 3; what++) Due.is("odds(" + sort + ", " + what + ")", x.odds(sort, what), due[sort][what]);
        }
        Due.faulty("odds 4 10 20 70;", 2, 5);
        Due.faulty("odds 0 101 0 0;", 2, 7);
        Due.faulty("odds 0 0 101 0;", 2, 9);
        Due.faulty("odds 0 0 0 101;", 2, 11);
    }

    private static void weights() {
        Due.says("part 1: 'weights' X Y Z ';' (0 .. 9)");
        CoatsHall x = Due.withHall("weights 0 9 8;");
        for (int k = 0; k < 3; k++) Due.is("count(" + (8 + k) + ")", x.count(8 + k), new int[] {0, 9, 8}[k]);
        CoatsHall y = Due.withHall("weights 9 0 9;");
        for (int k = 0; k < 3; k++) Due.is("count(" + (8 + k) + ")", y.count(8 + k), new int[] {9, 0, 9}[k]);
        Due.is("Z is 0", Due.withHall("weights 1 1 0;").count(10), 0);
        Due.faulty("weights 10 9 9;", 2, 8);
        Due.faulty("weights 9 10 9;", 2, 10);
        Due.faulty("weights 9 9 10;", 2, 12);
    }

    private static void giveAndLess() {
        Due.says("part 1: 'give' G ';' (0 .. 20) 'less' L ';' (0 .. 20)");
        CoatsHall x = Due.withHall("give 0;less 20;");
        Due.is("G", x.count(6), 0);
        Due.is("L", x.count(7), 20);
        CoatsHall y = Due.withHall("give 20;less 0;");
        Due.is("G", y.count(6), 20);
        Due.is("L", y.count(7), 0);
        Due.faulty("give 21;", 2, 5);
        Due.faulty("less 21;", 2, 5);
    }

    private static void allButRowOnce() {
        Due.says("part 1: All but 'row' once ('odds' once of each SORT)");
        Due.faultless("row 1 kind 0 walk 0;".repeat(12), 12);
        for (int sort = 0; sort < 4; sort++) {
            String clause = "odds " + sort + " 10 20 70;";
            Due.faulty(clause + clause, 3, clause.length() + 5);
        }
        Due.faulty("weights 1 2 5;weights 1 2 5;", 3, 14);
        Due.faulty("give 2;give 2;", 3, 7);
        Due.faulty("less 1;less 1;", 3, 7);
        Due.faultless("odds 3 1 2 97;odds 2 1 2 97;odds 1 1 2 97;odds 0 1 2 97;weights 1 1 1;give 1;less 1;", 0);
        CoatsHall x = Due.withHall("odds 1 1 2 97;weights 1 1 1;give 1;less 1;");
        Due.is("once in each text", Due.hallOf(x, "odds 1 3 3 94;weights 1 1 2;give 3;less 4;"), 0);
        Due.is("G", x.count(6), 3);
    }

    private static void notTold() {
        Due.says("part 1: What is not told: odds 10 20 70; weights 1 2 5; give 2; less 1");
        String[] texts = {"", "odds 1 1 2 97;", "weights 3 4 6;", "give 7;", "less 8;", "row 1 kind 0 walk 1;"};
        for (int k = 0; k < texts.length; k++) {
            // Told otherwise before: the text told last does not tell it.
            CoatsHall x = Due.withHall("odds 0 90 5 5;odds 1 90 5 5;odds 2 90 5 5;odds 3 90 5 5;weights 9 8 7;give 19;less 18;row 9 kind 2 walk 5;");
            Due.is("PEGS of " + texts[k], Due.hallOf(x, texts[k]), k == 5 ? 1 : 0);
            for (int sort = 0; sort < 4; sort++) {
                int[] due = k == 1 && sort == 1 ? new int[] {1, 2, 97} : new int[] {10, 20, 70};
                for (int what = 0; what < 3; what++) Due.is("odds after " + texts[k], x.odds(sort, what), due[what]);
            }
            int[] due = {k == 3 ? 7 : 2, k == 4 ? 8 : 1, k == 2 ? 3 : 1, k == 2 ? 4 : 2, k == 2 ? 6 : 5};
            for (int i = 0; i < 5; i++) Due.is("count(" + (6 + i) + ") after " + texts[k], x.count(6 + i), due[i]);
        }
    }

    // ---- numbers, words, blanks

    private static void oneToThreeFigures() {
        Due.says("part 1: NUMBERS have one to three figures");
        Due.faultless("row 7 kind 1 walk 9;", 7);
        Due.faultless("row 07 kind 01 walk 09;", 7);
        Due.faultless("row 007 kind 001 walk 009;", 7);
        Due.faultless("odds 003 000 100 000;", 0);
        Due.faulty("row 0007 kind 1 walk 9;", 2, 4);
        Due.faulty("row 7 kind 0001 walk 9;", 2, 11);
        Due.faulty("row 7 kind 1 walk 0009;", 2, 18);
        Due.faulty("give 0000;", 2, 5);
        Due.faulty("give 00000000000000000000;", 2, 5);
        Due.faulty("less 18446744073709551617;", 2, 5);
        Due.faulty("row kind 1 walk 9;", 1, 4);
    }

    private static void wordsAreSmallLetters() {
        Due.says("part 1: words are letters a .. z side by side");
        for (String text : new String[] {"Row", "ROW", "rOw", "roW", "rows", "arow", "ro", "r", "rowz", "zrow", "odd", "oddss", "weight",
            "gives", "lesss", "les", "kind", "walk", "rowkind"}) Due.faulty(text + " 1 kind 0 walk 0;", 1, 0);
        Due.faulty("row 1 Kind 0 walk 0;", 1, 6);
        Due.faulty("row 1 kinD 0 walk 0;", 1, 6);
        Due.faulty("row 1 kinda 0 walk 0;", 1, 6);
        Due.faulty("row 1 kind 0 walks 0;", 1, 13);
        Due.faulty("row 1 kind 0 wal 0;", 1, 13);
    }

    /** Each of the 256 bytes at five places of a text that is good without it. */
    private static void otherBytes() {
        Due.says("part 1: blanks (32); 1 it cannot stand there (a word that cannot: at its first letter)");
        for (int b = 0; b < 256; b++) {
            String it = "" + (char) b;
            boolean letter = b >= 'a' && b <= 'z', figure = b >= '0' && b <= '9', blank = b == 32;
            if (blank) {
                for (int at : new int[] {0, 3, 4, 14, 15}) Due.faultless(put(it, at), 1);
                continue;
            }
            Due.faulty(put(it, 0), 1, 0);
            Due.faulty(put(it, 15), 1, 15);
            if (letter) {
                Due.faulty(put(it, 3), 1, 0);
                Due.faulty(put(it, 4), 1, 4);
                Due.faulty(put(it, 14), 1, 14);
            } else if (figure) {
                int before = (b - '0') * 10 + 1, behind = 10 + b - '0';
                if (before <= 24) Due.faultless(put(it, 3), before);
                else Due.faulty(put(it, 3), 2, 3);
                Due.faultless(put(it, 4), behind);
                Due.faultless(put(it, 14), 1);
            } else {
                Due.faulty(put(it, 3), 1, 3);
                Due.faulty(put(it, 4), 1, 4);
                if (b == ';') Due.faulty(put(it, 14), 1, 15);
                else Due.faulty(put(it, 14), 1, 14);
            }
        }
    }

    private static String put(String it, int at) {
        return ROW_OF_15.substring(0, at) + it + ROW_OF_15.substring(at);
    }

    private static String joined(String[] tokens, int from, int to, String between) {
        StringBuilder text = new StringBuilder();
        for (int i = from; i < to; i++) text.append(tokens[i]).append(between);
        return text.toString();
    }

    private static void blanksAnywhere() {
        Due.says("part 1: blanks (32) may stand anywhere");
        for (String[] clause : CLAUSES) {
            int pegs = clause[0].equals("row") ? 2 : 0;
            for (String between : new String[] {" ", "  ", "       "}) {
                Due.faultless(joined(clause, 0, clause.length, between), pegs);
                Due.faultless(between + joined(clause, 0, clause.length, between), pegs);
            }
        }
    }

    private static void blanksWithin() {
        Due.says("part 1: .. but within words and NUMBERS");
        for (int i = 1; i < 3; i++) Due.faulty("row".substring(0, i) + " " + "row".substring(i) + "1kind0walk0;", 1, 0);
        for (int i = 1; i < 4; i++) Due.faulty("row1" + "kind".substring(0, i) + " " + "kind".substring(i) + "0walk0;", 1, 4);
        for (int i = 1; i < 4; i++) Due.faulty("row1kind0" + "walk".substring(0, i) + " " + "walk".substring(i) + "0;", 1, 9);
        Due.faulty("row1 2kind0walk0;", 1, 5);
        Due.faulty("row12kind0walk1 1;", 1, 16);
        Due.faulty("give 1 1;", 1, 7);
        Due.faulty("less 0 01;", 1, 7);
    }

    private static void sideBySide() {
        Due.says("part 1: two words, two NUMBERS side by side need one");
        Due.faultless("odds3 5 15 80;weights1 2 3;give4;less4;row2kind1walk9;", 2);
        Due.faulty("weights 1 23;", 2, 10);
        Due.faulty("weights 123;", 2, 8);
        Due.faulty("odds 0 1020 70;", 2, 7);
        Due.faulty("odds 0 10 2070;", 2, 10);
        Due.faulty("odds 010 20 70;", 2, 5);
        Due.faulty("rowkind", 1, 0);
        Due.faulty("row kind", 1, 4);
    }

    private static void emptyTexts() {
        Due.says("part 1: An empty text (or one of blanks alone) has no FAULT");
        for (int blanks : new int[] {0, 1, 8, 239, 240}) {
            Due.faultless(" ".repeat(blanks), 0);
            CoatsHall x = Due.withHall("row 3 kind 1 walk 4;give 9;");
            Due.is(blanks + " blanks are THE HALL", Due.hallOf(x, " ".repeat(blanks)), 0);
            Due.is("it has no PEGS", x.count(0), 0);
            Due.is("G is not told", x.count(6), 2);
        }
    }

    // ---- faults

    private static void cannotStand() {
        Due.says("part 1: FAULTS: 1 it cannot stand there (a word that cannot: at its first letter)");
        for (String[] clause : CLAUSES) {
            for (int i = 0; i < clause.length; i++) {
                String before = joined(clause, 0, i, " "), behind = " " + joined(clause, i + 1, clause.length, " ");
                boolean number = Character.isDigit(clause[i].charAt(0));
                for (String other : new String[] {"x", "kinds", "!", "0", ";", "\u0000", "\u00ff"}) {
                    boolean likewise = number && other.equals("0") || other.equals(clause[i]);
                    if (!likewise) Due.faulty(before + other + behind, 1, before.length());
                }
                if (!number && !clause[i].equals(";")) Due.faulty(before + clause[i] + "s" + behind, 1, before.length());
            }
        }
    }

    private static void endOfText() {
        Due.says("part 1: the end at the text's length");
        for (String[] clause : CLAUSES) {
            for (int i = 1; i < clause.length; i++) {
                String text = joined(clause, 0, i, " ");
                Due.faulty(text, 1, text.length());
                Due.faulty(text.trim(), 1, text.length() - 1);
                Due.faulty(text + "   ", 1, text.length() + 3);
                String second = "row 1 kind 0 walk 0; " + text;
                Due.faulty(second, 1, second.length());
            }
        }
    }

    private static void badNumbers() {
        Due.says("part 1: 2 a NUMBER of four figures or more, or out of its bounds (N 1 .. 24; at its first)");
        int[][] most = {{24, 2, 99}, {3, 100, 100, 100}, {9, 9, 9}, {20}, {20}};
        for (int c = 0; c < CLAUSES.length; c++) {
            int number = 0;
            for (int i = 1; i < CLAUSES[c].length; i++) {
                if (!Character.isDigit(CLAUSES[c][i].charAt(0))) continue;
                String before = joined(CLAUSES[c], 0, i, " "), behind = " " + joined(CLAUSES[c], i + 1, CLAUSES[c].length, " ");
                for (String bad : new String[] {"" + (most[c][number] + 1), "999", "0000", "0001", "1000", "9999", "4294967296", "00000000000000000001"}) {
                    Due.faulty(before + bad + behind, 2, before.length());
                }
                number++;
            }
        }
        Due.faultless("row 1 kind 0 walk 0;", 1);
        Due.faultless("row 24 kind 2 walk 99;", 24);
        Due.faulty("row 0 kind 0 walk 0;", 2, 4);
        Due.faulty("row 000 kind 0 walk 0;", 2, 4);
        Due.faulty("row 25 kind 0 walk 0;", 2, 4);
    }

    private static void toldAlready() {
        Due.says("part 1: 3 what was told already (at the clause's first letter; of 'odds' at its SORT)");
        Due.faulty("less 1;row 1 kind 0 walk 0; less 1;", 3, 28);
        Due.faulty("give 1;  give", 3, 9);
        Due.faulty("weights 1 1 1;less 1;weights!", 3, 21);
        Due.faulty("odds 2 10 20 70;odds   2", 3, 23);
        Due.faulty("odds 2 10 20 70;odds 002 x", 3, 21);
        Due.faulty("odds 2 10 20 70;odds", 1, 20);
        Due.faulty("odds 2 10 20 70;odds x", 1, 21);
        Due.faulty("give 1;giv", 1, 7);
        Due.faulty("give 1;gives 1;", 1, 7);
    }

    private static void tooManyPegs() {
        Due.says("part 1: 4 more than 24 PEGS (at N)");
        Due.faulty("row 24 kind 0 walk 0; row  1 ", 4, 27);
        Due.faulty("row 1 kind 0 walk 0;row 24", 4, 24);
        Due.faulty("row 8 kind 0 walk 0;row 8 kind 0 walk 0;row 9 kind 9", 4, 44);
        Due.faultless("row 8 kind 0 walk 0;row 8 kind 0 walk 0;row 8 kind 0 walk 0;", 24);
    }

    private static void notHundred() {
        Due.says("part 1: 5 A, B, C not together 100 (at C)");
        Due.faulty("odds 0 33 33 33;", 5, 13);
        Due.faulty("odds 0 33 33 35;", 5, 13);
        Due.faulty("odds 0 0 0 0;", 5, 11);
        Due.faulty("odds 0 100 100 100;", 5, 15);
        Due.faulty("odds 0 100 0  1", 5, 14);
        Due.faulty("odds 0 0 100 100", 5, 13);
        Due.faultless("odds 0 1 98 1;", 0);
    }

    private static void firstByte() {
        Due.says("part 1: FAULTS, at the first byte that has one");
        Due.faulty("odds 0 1 2 3;give 21;", 5, 11);
        Due.faulty("give 21;odds 0 1 2 3;", 2, 5);
        Due.faulty("give 1;give 21;", 3, 7);
        Due.faulty("row 24 kind 0 walk 0;row 1 kinds", 4, 25);
        Due.faulty("row 24 kind 3 walk 0;row 1 kind 0 walk 0;", 2, 12);
        Due.faulty("odds 0 0 0 99!", 5, 11);
        Due.faulty("odds 0 101 0 0 0;", 2, 7);
        Due.faulty("x;row 25 kind 0 walk 0;", 1, 0);
        Due.faulty("row 25 x", 2, 4);
        Due.faulty("odds 1 1 1 98;odds 1 1 1 1;", 3, 19);
    }

    private static void leastOfOneByte() {
        Due.says("part 1: of these the least");
        // 1 and 2: a NUMBER where none can stand, out of all bounds.
        Due.faulty("1000", 1, 0);
        Due.faulty("row 1 1000", 1, 6);
        Due.faulty("give 1 9999;", 1, 7);
        // 2 and 4: N out of its bounds, and too many with those before.
        Due.faulty("row 24 kind 0 walk 0;row 25 kind 0 walk 0;", 2, 25);
        Due.faulty("row 1 kind 0 walk 0;row 0024 kind 0 walk 0;", 2, 24);
        Due.faulty("row 24 kind 0 walk 0;row 0 kind 0 walk 0;", 2, 25);
        // 2 and 5: C out of its bounds, and not together 100.
        Due.faulty("odds 0 1 1 101;", 2, 11);
        Due.faulty("odds 0 10 20 0070;", 2, 13);
        // 1 and 5: nothing that is a NUMBER at C.
        Due.faulty("odds 0 1 1 ;", 1, 11);
        // 1 and 4, 1 and 3: nothing that is a NUMBER at N, at SORT.
        Due.faulty("row 24 kind 0 walk 0;row ;", 1, 25);
        Due.faulty("odds 0 1 1 98;odds ;", 1, 19);
    }

    // ---- hall, fault

    private static void textIsEmptyThen() {
        Due.says("3: THE TEXT (it is empty then, with a FAULT, too)");
        CoatsHall x = new CoatsHall();
        Due.is("a good text", Due.hallOf(x, "give 3;"), 0);
        Due.is("it is empty", x.count(5), 0);
        Due.is("a FAULT", Due.hallOf(x, "give 4;give"), -13);
        Due.is("it is empty", x.count(5), 0);
        Due.is("an empty one has no FAULT", x.hall(), 0);
        Due.is("it is empty still", x.count(5), 0);
        Due.is("nothing is left of the one with the FAULT", Due.hallOf(x, " 5;"), -11);
        Due.is("the place", x.fault(), 1);
        Due.feed(x, " ".repeat(240));
        Due.is("a full one", x.hall(), 0);
        Due.is("room again", x.feed(8, 0L), 8);
    }

    private static void bytesOfAnEarlierText() {
        Due.says("3: THE TEXT .. becomes THE HALL: no byte of one before");
        String text = "row 2 kind 0 walk 3;give 5;";
        for (int length = 0; length < text.length(); length++) {
            CoatsHall x = Due.withHall(text);
            String part = text.substring(0, length);
            boolean good = length == 0 || length == text.indexOf(';') + 1;
            Due.is("hall() of '" + part + "'", Due.hallOf(x, part), good ? length == 0 ? 0 : 2 : -11);
            if (good) Due.is("G is not told", x.count(6), 2);
        }
    }

    private static void stays() {
        Due.says("3: (GUESTS, CLAIMS, NIGHTS, THE NIGHT stay)");
        CoatsHall x = Due.withHall("row 3 kind 0 walk 1;weights 1 0 0;");
        x.guest(1, 0, 7, 8);
        x.guest(2, 2, 9, 10);
        x.claim(1, 3, 4);
        x.night(2, 1, 7, 0, 0);
        x.tonight(2, 1);
        Due.is("EXPECTED on THE NIGHT", x.told(0, 8), 800);
        for (String text : new String[] {"row 1 kind 1 walk 1;weights 1 0 0;", "weights 1 0 0;"}) {
            Due.is("told anew", Due.hallOf(x, text), text.startsWith("row") ? 1 : 0);
            int[] due = {2, 0, 1, 1};
            for (int what = 1; what <= 4; what++) Due.is("count(" + what + ")", x.count(what), due[what - 1]);
            Due.is("SORT", x.told(0, 0), 1);
            Due.is("TIP", x.told(1, 2), 9);
            Due.is("the CLAIM is 1's still", x.claim(1, 0, 0), NOT);
            Due.is("LEARNT", x.learnt(2, 1, 0), 800);
            Due.is("THE NIGHT", x.told(1, 8), 800);
        }
    }

    private static void howManyPegs() {
        Due.says("3: how many PEGS");
        Due.faultless("give 1;", 0);
        for (int n = 1; n <= 24; n++) Due.faultless("row " + n + " kind 0 walk 0;", n);
        CoatsHall x = Due.withHall("row 24 kind 0 walk 0;");
        Due.is("fewer than before", Due.hallOf(x, "row 1 kind 2 walk 2;"), 1);
        Due.is("count(0)", x.count(0), 1);
        Due.is("none of those before", x.peg(1, 0), -1001);
    }

    private static void faultNumbers() {
        Due.says("3: -10 less the number of its FAULT");
        String[] texts = {"x", "give 21;", "give 1;give 1;", "row 24 kind 0 walk 0;row 1 kind 0 walk 0;", "odds 0 1 1 1;"};
        for (int number = 1; number <= 5; number++) {
            Due.is("FAULT " + number, Due.hallOf(new CoatsHall(), texts[number - 1]), -10 - number);
        }
    }

    private static void allElseAsItWas() {
        Due.says("3: (all else is as it was)");
        String told = "row 1 kind 2 walk 1;odds 0 1 1 98;weights 7 7 7;give 7;less 7;";
        String[] faults = {"x", "row 25", "give 1;", "row 24 kind 0 walk 0;", "odds 1 1 1 1;"};
        for (int k = 0; k < 5; k++) {
            CoatsHall x = Due.withHall("row 2 kind 1 walk 5;odds 0 50 30 20;weights 1 2 3;give 4;less 5;");
            x.guest(0, 1, 1, 1);
            x.night(1, 1, 1, 1, 1);
            x.claim(0, 1, 2);
            x.keep(1);
            Due.is("a FAULT behind a good part", Due.hallOf(x, told + faults[k]), -11 - k);
            int[] due = {2, 1, 0, 1, 1, 0, 4, 5, 1, 2, 3};
            for (int what = 0; what <= 10; what++) Due.is("count(" + what + ")", x.count(what), due[what]);
            for (int p = 0; p < 2; p++) Due.is("walk of " + p, x.peg(p, 1), 5 + p);
            Due.is("KIND", x.peg(1, 0), 1);
            for (int what = 0; what < 3; what++) Due.is("odds", x.odds(0, what), new int[] {50, 30, 20}[what]);
            Due.is("EXPECTED", x.told(0, 8), 50 + 60 + 60);
            Due.is("SUM", x.plan(false, NONE), 170 * 5);
            Due.is("the IMAGE is good still", x.goBack(1), 1);
        }
    }

    private static void notWithEvents() {
        Due.says("3: NOT: there are EVENTS (THE TEXT stays)");
        CoatsHall x = Due.withHall("row 2 kind 0 walk 1;");
        x.guest(0, 0, 0, 0);
        x.keep(0);
        x.hang(0, 0, 0, 0);
        Due.feed(x, "row 5 kind 1");
        Due.is("with a FAULT", x.hall(), NOT);
        Due.feed(x, " walk 3;");
        Due.is("without", x.hall(), NOT);
        Due.is("THE TEXT stays", x.count(5), 20);
        Due.is("so do the PEGS", x.count(0), 2);
        x.give(0, 0, 0);
        Due.is("EVENTS are past, not gone", x.hall(), NOT);
        Due.is("back before the first of them", x.goBack(0), 1);
        Due.is("THE TEXT that stayed", x.hall(), 5);
        Due.is("its walk", x.peg(4, 1), 7);
        x.guest(0, 1, 0, 0);
        x.hang(0, 1, 0, 0);
        Due.is("an empty text, too", x.hall(), NOT);
        Due.is("the PEGS stay", x.count(0), 5);
    }

    private static void placeOfTheLatest() {
        Due.says("4: The place (from 0 on) of the byte that has the FAULT of the latest hall() that was not NOT; NONE");
        CoatsHall x = new CoatsHall();
        Due.is("before any hall()", x.fault(), NONE);
        Due.feed(x, "  x");
        Due.is("a text alone has none", x.fault(), NONE);
        x.hall();
        Due.is("from 0 on", x.fault(), 2);
        Due.is("at 0", Due.hallOf(x, "x"), -11);
        Due.is("from 0 on", x.fault(), 0);
        Due.feed(x, "row 1 kind 0 walk 0;");
        Due.is("the latest still", x.fault(), 0);
        x.hall();
        Due.is("no FAULT", x.fault(), NONE);
        Due.is("a FAULT", Due.hallOf(x, "give"), -11);
        x.guest(0, 0, 0, 0);
        x.hang(0, 0, 0, 0);
        Due.is("NOT", Due.hallOf(x, "x"), NOT);
        Due.is("is passed over", x.fault(), 4);
    }
}
