/** What the tests of sentences have in common: an answer against the one that is due, and texts that are fed. */
abstract class Checks {
    static final int NONE = -1, UNKNOWN = -1000000001, OUTSIDE = -1000000002, NOT = -1000000003, FULL = -1000000004;
    static final int MIN = Integer.MIN_VALUE, MAX = Integer.MAX_VALUE;

    private static int wrong = 0;
    private static int sentences = 0;
    private static String sentence = "";

    /** The document's sentence that the answers from here on are due by. */
    static void says(String words) {
        sentence = words;
        sentences++;
    }

    static void due(String call, long got, long want) {
        if (got != want) {
            wrong++;
            System.out.println("\"" + sentence + "\": " + call + " answered " + got + ", due is " + want);
        }
    }

    /** Up to eight bytes a call; a sign of the text is a byte of that number. */
    static void feed(FittingStrides x, String text) {
        for (int i = 0; i < text.length(); i += 8) {
            int n = Math.min(8, text.length() - i);
            long bytes = 0;
            for (int k = 0; k < n; k++) {
                bytes = bytes << 8 | text.charAt(i + k);
            }
            due("feed() of " + text, x.feed(n, bytes), i + n);
        }
    }

    static FittingStrides townOf(String text) {
        FittingStrides x = new FittingStrides();
        feed(x, text);
        int places = x.town();
        if (places < 0) {
            due("town() of '" + text + "' at " + x.fault(), places, NONE);
        }
        return x;
    }

    static void dueFault(String text, int kind, int at) {
        FittingStrides x = new FittingStrides();
        feed(x, text);
        due("town() of '" + text + "'", x.town(), -10 - kind);
        due("fault() of '" + text + "'", x.fault(), at);
    }

    static void dueRight(String text, int places, int stairs, int persons) {
        FittingStrides x = new FittingStrides();
        feed(x, text);
        due("town() of '" + text + "'", x.town(), places);
        due("fault() of '" + text + "'", x.fault(), NONE);
        due("told(1) of '" + text + "'", x.told(1), stairs);
        due("told(2) of '" + text + "'", x.told(2), persons);
    }

    static void end() {
        System.out.println(wrong == 0 ? sentences + " sentences hold" : wrong + " answers are not as due");
        if (wrong != 0) {
            System.exit(1);
        }
    }
}
