/** Prints each answer that is not as due; end() then leaves with exit code 1. */
final class Due {
    private static int calls = 0;
    private static int wrong = 0;
    private static int sentences = 0;
    private static String sentence = "";

    /** The sentence of the document, behind its promise's number or its part's name, that the next answers hold to. */
    static void says(String words) {
        sentence = "[" + words + "] ";
        sentences++;
    }

    static void is(String call, long got, long want) {
        calls++;
        if (got == want) return;
        wrong++;
        if (wrong <= 50) System.out.println(sentence + call + " answered " + got + ", due is " + want);
    }

    static void end() {
        if (sentences > 0) System.out.println(sentences + " sentences");
        System.out.println(calls + " answers, " + wrong + " not as due");
        if (wrong != 0 || calls == 0) System.exit(1);
    }

    /** Feeds a text, eight bytes a call. */
    static void feed(CoatsHall x, String text) {
        for (int i = 0; i < text.length(); i += 8) {
            String part = text.substring(i, Math.min(text.length(), i + 8));
            is("feed of " + part, x.feed(part.length(), bytesOf(part)), x.count(5));
        }
    }

    static int hallOf(CoatsHall x, String text) {
        feed(x, text);
        return x.hall();
    }

    static long bytesOf(String part) {
        long bytes = 0;
        for (char sign : part.toCharArray()) bytes = bytes << 8 | sign & 255;
        return bytes;
    }

    static CoatsHall withHall(String text) {
        CoatsHall x = new CoatsHall();
        feed(x, text);
        int pegs = x.hall();
        is("hall() of " + text + " has no fault", pegs < 0 ? pegs : 0, 0);
        return x;
    }

    /** A text on a new object has this fault at this place. */
    static void faulty(String text, int number, int place) {
        CoatsHall x = new CoatsHall();
        feed(x, text);
        is("hall() of '" + text + "'", x.hall(), -10 - number);
        is("fault() of '" + text + "'", x.fault(), place);
        is("count(5) after '" + text + "'", x.count(5), 0);
        is("count(0) after '" + text + "'", x.count(0), 0);
    }

    static void faultless(String text, int pegs) {
        CoatsHall x = new CoatsHall();
        feed(x, text);
        is("hall() of '" + text + "'", x.hall(), pegs);
        is("fault() of '" + text + "'", x.fault(), -1);
        is("count(5) after '" + text + "'", x.count(5), 0);
    }
}
