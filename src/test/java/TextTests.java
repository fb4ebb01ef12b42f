/** Part 1 of the document and promises 2 to 4: the text at its ends, and each fault with its number and its byte. */
public final class TextTests extends Checks {
    private static final int CANNOT = 1, BOUNDS = 2, AGAIN = 3, LIKE = 4;

    /** What may stand at a place of the grammar. */
    private static final int WORD_PLACES = 1, NUMBER = 2, SEMICOLON = 4, COMMA = 8, CLAUSE = 16, KIND = 32, NOTHING = 64;

    /** A text with every form of clause, token by token, and what may stand where each token does; last, behind them all. */
    private static final String[] TOKENS = {"places", "2", ";", "stair", "plain", "0", "1", "5", ",", "6", ",", "7", ";",
        "person", "0", "5", "6", ";"};
    private static final int[] MAY = {WORD_PLACES | NOTHING, NUMBER, SEMICOLON, CLAUSE | NOTHING, KIND, NUMBER, NUMBER, NUMBER,
        COMMA | SEMICOLON, NUMBER, COMMA | SEMICOLON, NUMBER, SEMICOLON, CLAUSE | NOTHING, NUMBER, NUMBER, NUMBER | SEMICOLON,
        SEMICOLON, CLAUSE | NOTHING};

    private static String before(int token, String gap) {
        StringBuilder s = new StringBuilder();
        for (int i = 0; i < token; i++) {
            s.append(TOKENS[i]).append(gap);
        }
        return s.toString();
    }

    private static void wordsThatCannot() {
        says("1 it cannot stand there (a word that cannot, another one first than 'places': at its first letter");
        String[] words = {"places", "stair", "person", "plain", "open", "leap", "a", "z", "plac", "placesx", "stai", "stairs",
            "perso", "persons", "plai", "plains", "ope", "opens", "lea", "leaps", "placesz", "placesa", "stairz", "personz", "plainz", "openz", "leapz", "stairplain", "ples", "stbir", "qerson"};
        for (int i = 0; i < MAY.length; i++) {
            for (String word : words) {
                boolean clause = word.equals("stair") || word.equals("person");
                boolean kind = word.equals("plain") || word.equals("open") || word.equals("leap");
                boolean may = word.equals("places") && (MAY[i] & (WORD_PLACES | CLAUSE)) != 0
                        || clause && (MAY[i] & CLAUSE) != 0 || kind && (MAY[i] & KIND) != 0;
                if (!may) {
                    String text = before(i, " ");
                    dueFault(text + word, CANNOT, text.length());
                    dueFault(text + "   " + word + " 1;", CANNOT, text.length() + 3);
                }
            }
        }
        dueFault("stair plain 0 1 5;", CANNOT, 0);
        dueFault("person 0 5;", CANNOT, 0);
        dueFault("stair plain 0 1 5;places 2;", CANNOT, 0);
    }

    private static void signsThatCannot() {
        says("1 it cannot stand there");
        char[] signs = {';', ',', '.', ':', '/', '`', '{', 'A', 'Z', '@', '[', '-', '+', '\'', '!', 0, 1, 9, 10, 13, 31, 127, 128,
            160, 176, 225, 233, 255};
        for (int i = 0; i < MAY.length; i++) {
            for (char sign : signs) {
                boolean may = sign == ';' && (MAY[i] & SEMICOLON) != 0 || sign == ',' && (MAY[i] & COMMA) != 0;
                if (!may) {
                    String text = before(i, " ");
                    dueFault(text + sign, CANNOT, text.length());
                    dueFault(text + "  " + sign + "1;", CANNOT, text.length() + 2);
                }
            }
        }
        says("words are letters a .. z side by side: another sign ends the word");
        dueFault("placesX 2;", CANNOT, 6);
        dueFault("plaCes 2;", CANNOT, 0);
        dueFault("places 2;stair openX 0 1 5;", CANNOT, 19);
        dueFault("places 2;person\t0 5;", CANNOT, 15);
    }

    private static void numbersThatCannot() {
        says("1 it cannot stand there: a NUMBER, of whatever figures (of these the least)");
        for (int i = 0; i < MAY.length; i++) {
            for (String number : new String[] {"1", "0", "999", "1000", "00000000000000000001"}) {
                if ((MAY[i] & NUMBER) == 0) {
                    String text = before(i, " ");
                    dueFault(text + number, CANNOT, text.length());
                    dueFault(text + "  " + number + ";", CANNOT, text.length() + 2);
                }
            }
        }
    }

    private static void endsThatCannot() {
        says("(the end at the text's length)");
        for (int i = 1; i < MAY.length; i++) {
            if ((MAY[i] & NOTHING) == 0) {
                String tight = before(i, " ").trim();
                dueFault(tight, CANNOT, tight.length());
                dueFault(tight + " ", CANNOT, tight.length() + 1);
                dueFault(tight + "    ", CANNOT, tight.length() + 4);
            }
        }
        String full = "places 2;" + " ".repeat(500 - 9 - 11) + "person 0 5 ";
        dueFault(full, CANNOT, 500);
        says("FAULTS, at the first byte that has one: the last byte of a full text");
        dueFault("places 2;" + " ".repeat(500 - 9 - 11) + "person 0 5,", CANNOT, 499);
        dueFault("places 2;" + " ".repeat(490) + "x", CANNOT, 499);
        dueFault("places 2;" + " ".repeat(500 - 9 - 10) + "person 0 0", BOUNDS, 499);
    }

    private static void clausesThatEnd() {
        says("clauses: a text may end behind each ';' and nowhere else");
        dueRight(before(3, " "), 2, 0, 0);
        dueRight(before(13, " "), 2, 1, 0);
        dueRight(before(18, " "), 2, 1, 1);
        dueRight(before(3, "").replace("places", "places "), 2, 0, 0);
        says("'stair' .. 'person' ..: in any order behind 'places'");
        dueRight("places 2;person 0 5;stair open 0 1 9;person 1 6;stair leap 1 0 9;", 2, 2, 2);
    }

    private static void fourthPart() {
        says("1 to 3 PARTS; 1 .. a fourth PART: at its ','");
        dueRight("places 2;stair plain 0 1 5;", 2, 1, 0);
        dueRight("places 2;stair plain 0 1 5,6;", 2, 1, 0);
        dueRight("places 2;stair plain 0 1 5,6,7;", 2, 1, 0);
        dueFault("places 2;stair plain 0 1 5,6,7,8;", CANNOT, 30);
        dueFault("places 2;stair plain 0 1 5,6,7  ,8;", CANNOT, 32);
        dueFault("places 2;stair plain 0 1 5,6,7,", CANNOT, 30);
        dueFault("places 2;stair plain 0 1 5,6,7,0", CANNOT, 30);
        dueFault("places 2;stair plain 0 1 ;", CANNOT, 25);
        dueFault("places 2;stair plain 0 1 ,5;", CANNOT, 25);
        dueFault("places 2;stair plain 0 1 5,,6;", CANNOT, 27);
    }

    /** A number of a text whose least and most are these, between what stands before and behind it. */
    private static void numberBounds(String head, String tail, int least, int most) {
        String[] right = {"" + least, "" + most, "00" + least % 10, String.format("%03d", least), String.format("%03d", most)};
        for (String number : right) {
            FittingStrides x = new FittingStrides();
            feed(x, head + number + tail);
            due("town() of '" + head + number + tail + "'", x.town() > 0 ? 1 : 0, 1);
        }
        String[] wrong = {"" + (least - 1), "" + (most + 1), "999", "1000", "000" + least, "0" + String.format("%03d", most), "2147483648",
            "4294967297", "18446744073709551617", "00000000000000000001"};
        for (String number : wrong) {
            if (!number.startsWith("-")) {
                dueFault(head + number + tail, BOUNDS, head.length());
                dueFault(head + "  " + number, BOUNDS, head.length() + 2);
                dueFault(head + number + "x", BOUNDS, head.length());
            }
        }
    }

    private static void numbersOutOfBounds() {
        says("'places' N ';' (1 .. 8)");
        numberBounds("places ", ";", 1, 8);
        numberBounds("places", ";", 1, 8);
        says("N steps, 1 .. 720");
        numberBounds("places 2;stair plain 0 1 ", ";", 1, 720);
        numberBounds("places 2;stair open 0 1 5,", ",6;", 1, 720);
        numberBounds("places 2;stair leap 0 1 5,6,", ";", 1, 720);
        says("STRIDE S 1 .. 24");
        numberBounds("places 2;person 0 ", ";", 1, 24);
        says("a second one, if it is told (STRIDE S 1 .. 24)");
        numberBounds("places 2;person 0 5 ", ";", 1, 24);
        says("a PLACE that there is not (at its first)");
        numberBounds("places 3;stair plain ", " 1 5;", 0, 2);
        numberBounds("places 3;stair plain 1 ", " 5;", 0, 2);
        numberBounds("places 3;person ", " 5;", 0, 2);
        numberBounds("places 8;person ", " 5;", 0, 7);
        numberBounds("places 1;person ", " 5;", 0, 0);
        dueFault("places 3;stair plain 3 3 5;", BOUNDS, 21);
        dueFault("places 3;stair plain 0 3 5;", BOUNDS, 23);
        dueFault("places 1;stair plain 0 1 5;", BOUNDS, 23);
    }

    private static void figuresOfNumbers() {
        says("NUMBERS have one to three figures");
        FittingStrides x = townOf("places 003;stair plain 00 002 720,072,9;person 02 024 9;");
        due("told(0)", x.told(0), 3);
        due("stair(0, 1)", x.stair(0, 1), 0);
        due("stair(0, 2)", x.stair(0, 2), 2);
        due("stair(0, 4)", x.stair(0, 4), 720);
        due("stair(0, 5)", x.stair(0, 5), 72);
        due("stair(0, 6)", x.stair(0, 6), 9);
        due("person(0, 0)", x.person(0, 0), 2);
        due("person(0, 1)", x.person(0, 1), 24);
        due("person(0, 2)", x.person(0, 2), 9);
        says("2 a NUMBER of four figures or more");
        dueFault("places 0003;", BOUNDS, 7);
        dueFault("places 3;person 0 0005;", BOUNDS, 18);
        dueFault("places 3;stair plain 0 1 0720;", BOUNDS, 25);
    }

    private static void blanks() {
        says("blanks (32) may stand anywhere but within words and NUMBERS");
        for (String gap : new String[] {" ", "  ", "       "}) {
            dueRight(gap + before(18, gap), 2, 1, 1);
        }
        dueFault("pla ces 2;", CANNOT, 0);
        dueFault("places 2;st air plain 0 1 5;", CANNOT, 9);
        dueFault("places 2;stair pl ain 0 1 5;", CANNOT, 15);
        dueFault("places 2;per son 0 5;", CANNOT, 9);
        dueFault("places 2;stair plain 0 1 7 2;", CANNOT, 27);
        dueFault("places 2;person 0 1 2 4;", CANNOT, 22);
        says("two words, two NUMBERS side by side need one");
        dueRight("places2;stair plain0 1 5,6;person0 5;", 2, 1, 1);
        dueFault("places 2;stairplain 0 1 5;", CANNOT, 9);
        dueFault("places 8;stair plain 01 5;", CANNOT, 25);
        dueFault("places 8;person 05;", CANNOT, 18);
        due("person(0, 1): 12, not 1 and 2", townOf("places 1;person 0 12;").person(0, 1), 12);
        due("person(0, 2): none", townOf("places 1;person 0 12;").person(0, 2), 0);
        due("person(0, 2): 2", townOf("places 1;person 0 1 2;").person(0, 2), 2);
    }

    private static void tooMany() {
        says("3 'places' again (at its first letter)");
        dueFault("places 2;places 2;", AGAIN, 9);
        dueFault("places 2;  places", AGAIN, 11);
        dueFault("places 2;person 0 5; places 3;", AGAIN, 21);
        says("FAULTS .. of these the least: 'places' again where no clause begins");
        dueFault("places places 2;", CANNOT, 7);
        dueFault("places 2 places 2;", CANNOT, 9);
        says("10 STAIRS at most; 3 an 11th 'stair' (at its first letter)");
        String stairs = "places 2;" + "stair open 0 1 1;".repeat(10);
        dueRight(stairs, 2, 10, 0);
        dueFault(stairs + "stair open 0 1 1;", AGAIN, 179);
        dueFault(stairs + "  stair", AGAIN, 181);
        dueFault(stairs + "stair x", AGAIN, 179);
        dueFault(stairs + "stairs", CANNOT, 179);
        dueRight(stairs + "person 0 1;", 2, 10, 1);
        dueFault(stairs + "person 0 1;stair", AGAIN, 190);
        says("8 PERSONS at most; 3 a ninth 'person' (at its first letter)");
        String persons = "places 2;" + "person 0 1;".repeat(8);
        dueRight(persons, 2, 0, 8);
        dueFault(persons + "person 0 1;", AGAIN, 97);
        dueFault(persons + "  person", AGAIN, 99);
        dueFault(persons + "person x", AGAIN, 97);
        dueFault(persons + "persons", CANNOT, 97);
        dueRight(persons + "stair open 0 1 1;", 2, 1, 8);
        dueFault(persons + "stair open 0 1 1;person", AGAIN, 114);
        dueFault(persons + "places", AGAIN, 97);
    }

    private static void likePlaces() {
        says("4 Q like P (at it)");
        dueFault("places 2;stair plain 0 0 5;", LIKE, 23);
        dueFault("places 2;stair open 1 1 5;", LIKE, 22);
        dueFault("places 2;stair leap 1   001", LIKE, 24);
        dueFault("places 8;stair plain 7 07;", LIKE, 23);
        dueFault("places 1;stair plain 0 0 5;", LIKE, 23);
        says("FAULTS .. of these the least: Q of four figures and like P");
        dueFault("places 2;stair plain 1 0001 5;", BOUNDS, 23);
        says("from PLACE P up to another PLACE Q: the next ones on both sides");
        dueRight("places 3;stair plain 1 0 5;stair plain 1 2 5;", 3, 2, 0);
    }

    private static void firstOfFaults() {
        says("FAULTS, at the first byte that has one");
        dueFault("places 9;x", BOUNDS, 7);
        dueFault("places 2;person 0 25;person 9 9;", BOUNDS, 18);
        dueFault("places 2;stair plain 0 0 0;", LIKE, 23);
        dueFault("places 2;stair plain 2 2 0;", BOUNDS, 21);
        dueFault("places 2;places 9;", AGAIN, 9);
        dueFault("x places 9;", CANNOT, 0);
    }

    private static void emptyText() {
        says("An empty text: no PLACES.");
        FittingStrides x = new FittingStrides();
        due("town()", x.town(), 0);
        due("fault()", x.fault(), NONE);
        due("told(0)", x.told(0), 0);
        x = townOf("places 2;stair open 0 1 5;person 0 5;");
        due("town() of an empty text", x.town(), 0);
        for (int what = 0; what <= 7; what++) {
            due("told(" + what + ")", x.told(what), 0);
        }
        due("stair(0, 0)", x.stair(0, 0), UNKNOWN);
        due("person(0, 0)", x.person(0, 0), UNKNOWN);
        due("reach(0, 1)", x.reach(0, 1), UNKNOWN);
        says("blanks (32) may stand anywhere: a text of blanks alone tells nothing (as NOTES has it)");
        dueRight(" ", 0, 0, 0);
        dueRight(" ".repeat(500), 0, 0, 0);
    }

    private static void fullText() {
        says("a text (500 bytes at most)");
        String text = "places 2;stair open 0 1 5;" + " ".repeat(500 - 26 - 11) + "person 1 5;";
        due("its bytes", text.length(), 500);
        dueRight(text, 2, 1, 1);
        says("Up to eight bytes (n 1 .. 8) of a long, the highest of these first");
        FittingStrides x = new FittingStrides();
        String told = "places 2;person 1 7;";
        for (int i = 0; i < told.length(); i++) {
            due("feed(1), the other bytes are not looked at", x.feed(1, 0x3B3B3B3B3B3B3B00L | told.charAt(i)), i + 1);
        }
        due("town()", x.town(), 2);
        due("person(0, 1)", x.person(0, 1), 7);
        for (int n = 1; n <= 8; n++) {
            dueFedBy(n);
        }
        says("OUTSIDE, FULL (500)");
        for (int n = 1; n <= 8; n++) {
            dueFull(n);
        }
    }

    /** The same text by n bytes a call. */
    private static void dueFedBy(int n) {
        String told = "places 8;person 7 23 19;stair leap 6 5 701,699,697;     ";
        FittingStrides x = new FittingStrides();
        int fed = 0;
        while (fed < told.length()) {
            int some = Math.min(n, told.length() - fed);
            long bytes = some < 8 ? -1L : 0;
            for (int k = 0; k < some; k++) {
                bytes = bytes << 8 | told.charAt(fed + k);
            }
            fed += some;
            due("feed(" + some + ")", x.feed(some, bytes), fed);
        }
        due("town() fed by " + n, x.town(), 8);
        due("person(0, 2)", x.person(0, 2), 19);
        due("stair(0, 6)", x.stair(0, 6), 697);
    }

    /** The last n bytes that there is room for, and one more. */
    private static void dueFull(int n) {
        FittingStrides x = new FittingStrides();
        feed(x, "places 3;" + " ".repeat(500 - 9 - n));
        due("told(3)", x.told(3), 500 - n);
        for (int more = n + 1; more <= 8; more++) {
            due("feed(" + more + ") at " + (500 - n), x.feed(more, -1L), FULL);
        }
        due("told(3)", x.told(3), 500 - n);
        due("feed(" + n + ") at " + (500 - n), x.feed(n, 0x2020202020202020L), 500);
        due("feed(1) at 500", x.feed(1, -1L), FULL);
        due("town()", x.town(), 3);
        due("feed(8) behind town()", x.feed(8, 0), 8);
    }

    private static void textsOneBehindAnother() {
        says("THE TEXT (it is empty then) becomes THE TOWN");
        FittingStrides x = townOf("places 2;");
        due("told(3)", x.told(3), 0);
        feed(x, "places 3;x");
        due("told(3)", x.told(3), 10);
        due("a faulty town()", x.town(), -11);
        due("told(3) behind a faulty one", x.told(3), 0);
        feed(x, "places 4;");
        due("town()", x.town(), 4);
        feed(x, " ".repeat(500));
        due("feed(1) at 500", x.feed(1, 0), FULL);
        x.town();
        due("feed(1) behind town()", x.feed(1, 0), 1);
        says("nothing of an earlier text is read: the end at the text's length");
        x = townOf("places 2;person 0 12;");
        feed(x, "places 2;person 0 1");
        due("town()", x.town(), -11);
        due("fault()", x.fault(), 19);
    }

    private static void latestFault() {
        says("The byte of the FAULT of the latest town(); NONE.");
        FittingStrides x = new FittingStrides();
        due("fault() of a new one", x.fault(), NONE);
        feed(x, "x");
        due("fault() of one that is only fed", x.fault(), NONE);
        x.town();
        due("fault()", x.fault(), 0);
        feed(x, "places 9;");
        due("fault() before the next town()", x.fault(), 0);
        x.town();
        due("fault()", x.fault(), 7);
        x.town();
        due("fault() of an empty text", x.fault(), NONE);
        feed(x, "places 1;,");
        x.town();
        due("fault()", x.fault(), 9);
        feed(x, "places 1;");
        x.town();
        due("fault() of a right text", x.fault(), NONE);
        says("-10 less the number of its FAULT");
        dueFault("x", 1, 0);
        dueFault("places 0;", 2, 7);
        dueFault("places 1;places", 3, 9);
        dueFault("places 1;stair open 0 0", 4, 22);
    }

    public static void main(String[] args) {
        wordsThatCannot();
        signsThatCannot();
        numbersThatCannot();
        endsThatCannot();
        clausesThatEnd();
        fourthPart();
        numbersOutOfBounds();
        figuresOfNumbers();
        blanks();
        tooMany();
        likePlaces();
        firstOfFaults();
        emptyText();
        fullText();
        textsOneBehindAnother();
        latestFault();
        end();
    }
}
