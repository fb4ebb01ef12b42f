/** Parts 2 and 3 of the document and what its promises answer at their ends: least and most, empty and full, first and last. */
public final class EdgeTests extends Checks {
    private static final int ALL_STRIDES = (1 << 24) - 1;

    /** Eight places on a line, seven stairs of unlike primes, and for each stair one person below it who alone may climb it. */
    private static final String LINE = "places 8;stair plain 0 1 2;stair plain 1 2 3;stair plain 2 3 5;stair plain 3 4 7;"
            + "stair plain 4 5 11;stair plain 5 6 13;stair plain 6 7 17;person 0 24;person 0 2;person 1 3;person 2 5;person 3 7;"
            + "person 4 11;person 5 13;person 6 17;";

    private static String stairs(int count) {
        return "stair open 0 1 5;".repeat(count);
    }

    private static String persons(int count) {
        return "person 0 5;".repeat(count);
    }

    // ---- promise 1, 3, 5 to 8

    private static void newObject() {
        says("No PLACES, LAW 0.");
        FittingStrides x = new FittingStrides();
        due("told(0)", x.told(0), 0);
        due("told(4)", x.told(4), 0);
        due("law(1)", new FittingStrides().law(1), 0);
        says("THE SEED (0 at first)");
        due("seed(5)", x.seed(5), 0);
        says("An object that has no town yet has nothing to answer from");
        for (int what = 1; what <= 7; what++) {
            due("told(" + what + ")", x.told(what), 0);
        }
        due("cover()", x.cover(), 0);
        due("fits()", x.fits(), ALL_STRIDES);
        due("ask()", x.ask(), NONE);
        due("judge()", x.judge(), NONE);
        due("tear()", x.tear(), 0);
        due("wish(0, 0)", x.wish(0, 0), 1);
        due("wish(1, 0)", x.wish(1, 0), UNKNOWN);
        for (int what = 0; what <= 2; what++) {
            due("worst(" + what + ")", x.worst(what), NONE);
        }
        due("keep(0)", x.keep(0), 1);
        due("goBack(0)", x.goBack(0), 1);
        due("goBack(1)", x.goBack(1), NOT);
    }

    private static FittingStrides used() {
        FittingStrides x = townOf("places 3;stair open 0 1 5;stair open 1 2 5;person 0 5;");
        x.go(0, 0);
        x.see(0, 1, false);
        x.write(0, 0);
        x.law(1);
        x.seed(MAX);
        x.keep(0);
        x.keep(1);
        return x;
    }

    private static void newTown() {
        for (String text : new String[] {"", "places 1;", "places 2;stair plain 0 1 7;person 1 3;"}) {
            FittingStrides x = used();
            feed(x, text);
            int places = x.town();
            says("nothing WORN, SEEN, no BOOK");
            due("told(7)", x.told(7), 0);
            due("stair(0, 7)", x.stair(0, 7), text.length() < 10 ? UNKNOWN : 0);
            due("told(5)", x.told(5), 0);
            due("told(6)", x.told(6), 0);
            due("fits()", x.fits(), ALL_STRIDES);
            due("judge()", x.judge(), NONE);
            due("tear()", x.tear(), 0);
            says("IMAGES are gone");
            due("goBack(0)", x.goBack(0), NOT);
            due("goBack(1)", x.goBack(1), NOT);
            says("LAW, THE SEED stay");
            due("told(4)", x.told(4), 1);
            due("seed(0)", x.seed(0), MAX);
            says("town: how many PLACES");
            due("told(0)", x.told(0), places);
        }
    }

    private static void numbered() {
        says("KIND 'plain' 'open' 'leap', numbered so");
        FittingStrides x = townOf("places 8;stair leap 0 7 720,1,24;stair plain 7 0 1,720;stair open 3 4 9;person 7 24;person 0 1 24;");
        due("stair(0, 0)", x.stair(0, 0), 2);
        due("stair(1, 0)", x.stair(1, 0), 0);
        due("stair(2, 0)", x.stair(2, 0), 1);
        says("1 P, 2 Q, 3 PARTS");
        int[][] ends = {{0, 7, 3}, {7, 0, 2}, {3, 4, 1}};
        for (int r = 0; r < 3; r++) {
            for (int what = 1; what <= 3; what++) {
                due("stair(" + r + ", " + what + ")", x.stair(r, what), ends[r][what - 1]);
            }
        }
        says("4 and i steps of PART i (0: not so many)");
        int[][] steps = {{720, 1, 24}, {1, 720, 0}, {9, 0, 0}};
        for (int r = 0; r < 3; r++) {
            for (int i = 0; i < 3; i++) {
                due("stair(" + r + ", " + (4 + i) + ")", x.stair(r, 4 + i), steps[r][i]);
            }
        }
        says("7 what is WORN, 8 who may CLIMB it (a SET of PERSONS)");
        due("stair(0, 7)", x.stair(0, 7), 0);
        due("stair(2, 8)", x.stair(2, 8), 3);
        due("stair(0, 8)", x.stair(0, 8), 2);
        due("stair(2, 8) of nobody", townOf("places 2;" + stairs(3)).stair(2, 8), 0);
        due("stair(9, 8) of all", townOf("places 2;" + stairs(10) + persons(8)).stair(9, 8), 255);
        says("0 PLACE, 1 its STRIDE, 2 the second one (0: none)");
        int[][] people = {{7, 24, 0}, {0, 1, 24}};
        for (int p = 0; p < 2; p++) {
            for (int what = 0; what <= 2; what++) {
                due("person(" + p + ", " + what + ")", x.person(p, what), people[p][what]);
            }
        }
        due("person(7, 1), the last one", townOf("places 1;" + persons(7) + "person 0 23 1;").person(7, 1), 23);
    }

    private static void counted() {
        says("0 PLACES, 1 STAIRS, 2 PERSONS, 3 bytes of THE TEXT, 4 LAW, 5 what was SEEN, 6 entries of THE BOOK, 7 all that is WORN");
        FittingStrides x = townOf("places 8;" + stairs(10) + persons(8));
        for (int i = 0; i < 40; i++) {
            x.write(7, 9);
        }
        for (int i = 0; i < 20; i++) {
            x.see(7, 0, true);
        }
        x.go(0, 9);
        x.go(1, 0);
        x.go(1, 0);
        feed(x, "x".repeat(500));
        x.law(1);
        int[] want = {8, 10, 8, 500, 1, 20, 40, 3};
        for (int what = 0; what <= 7; what++) {
            due("told(" + what + ")", x.told(what), want[what]);
        }
    }

    private static void goesInto() {
        says("s GOES INTO n, if n is a whole multiple of s; A STRIDE FITS a plain STAIR, if it GOES INTO each PART; an open one"
                + " always; a leap, if it is 1 or like each PART");
        for (int n = 1; n <= 720; n++) {
            FittingStrides x = townOf("places 2;stair plain 0 1 " + n + ";stair open 0 1 " + n + ";stair leap 0 1 " + n + ";");
            for (int s = 1; s <= 24; s++) {
                due("fit(0, " + s + ") of " + n, x.fit(0, s), n / s * s == n ? 1 : 0);
                due("fit(1, " + s + ") of " + n, x.fit(1, s), 1);
                due("fit(2, " + s + ") of " + n, x.fit(2, s), s == 1 || s == n ? 1 : 0);
            }
        }
        says("if it GOES INTO each PART");
        String[] parts = {"12,12,12", "11,12,12", "12,11,12", "12,12,11", "24,12", "12,6", "6,12", "720,720,720"};
        int[] fit = {1, 0, 0, 0, 1, 0, 0, 1};
        for (int i = 0; i < parts.length; i++) {
            due("fit(0, 12) of " + parts[i], townOf("places 2;stair plain 0 1 " + parts[i] + ";").fit(0, 12), fit[i]);
        }
        says("a leap, if it is 1 or like each PART (all PARTS alike then)");
        String[] leaps = {"24,24,24", "23,24,24", "24,23,24", "24,24,23", "24,48", "24,12", "24,24", "1,24"};
        int[] leapFit = {1, 0, 0, 0, 0, 0, 1, 0};
        for (int i = 0; i < leaps.length; i++) {
            FittingStrides x = townOf("places 2;stair leap 0 1 " + leaps[i] + ";");
            due("fit(0, 24) of " + leaps[i], x.fit(0, 24), leapFit[i]);
            due("fit(0, 1) of " + leaps[i], x.fit(0, 1), 1);
        }
        says("A PERSON may CLIMB a STAIR, if one of its STRIDES FITS it (the same for all PARTS)");
        FittingStrides x = townOf("places 2;stair plain 0 1 4,6;stair plain 0 1 4,8;stair plain 0 1 6,18;stair leap 0 1 4,6;"
                + "person 0 4 6;person 0 6 4;person 0 4;person 0 6;person 0 12;");
        due("stair(0, 8)", x.stair(0, 8), 0);
        due("stair(1, 8)", x.stair(1, 8), 7);
        due("stair(2, 8)", x.stair(2, 8), 11);
        due("stair(3, 8)", x.stair(3, 8), 0);
    }

    // ---- promise 9 to 12

    private static int wornBy(String kind, String steps, String strides, int law) {
        FittingStrides x = townOf("places 2;stair " + kind + " 0 1 " + steps + ";person " + law + " " + strides + ";");
        x.law(law);
        due("go(0, 0)", x.go(0, 0), 1 - law);
        due("told(7)", x.told(7), x.stair(0, 7));
        return x.stair(0, 7);
    }

    private static void worn() {
        says("for each PART N / the STRIDE, up");
        due("1 by 24", wornBy("open", "1", "24", 0), 1);
        due("23 by 24", wornBy("open", "23", "24", 0), 1);
        due("24 by 24", wornBy("open", "24", "24", 0), 1);
        due("25 by 24", wornBy("open", "25", "24", 0), 2);
        due("720 by 24", wornBy("plain", "720", "24", 0), 30);
        due("720 by 1", wornBy("leap", "720", "1", 0), 720);
        due("719 by 7", wornBy("open", "719", "7", 0), 103);
        due("1,1,1 by 24: each for itself", wornBy("open", "1,1,1", "24", 0), 3);
        due("25,24,1 by 24", wornBy("open", "25,24,1", "24", 0), 4);
        due("720,720,720 by 1", wornBy("plain", "720,720,720", "1", 0), 2160);
        FittingStrides last = townOf("places 2;stair open 0 1 9,9,9;stair open 0 1 8;" + stairs(7) + "stair open 0 1 7,6,5;person 0 1;");
        last.go(0, 0);
        due("stair(0, 7), its own PARTS alone", last.stair(0, 7), 27);
        last.go(0, 9);
        due("stair(9, 7), the last", last.stair(9, 7), 18);
        last.go(0, 1);
        due("stair(1, 7), one PART", last.stair(1, 7), 8);
        due("told(7), all", last.told(7), 53);
        says("the greatest of its STRIDES that FITS");
        due("12 by 3 4", wornBy("plain", "12", "3 4", 0), 3);
        due("12 by 4 3", wornBy("plain", "12", "4 3", 0), 3);
        due("12 by 24 2", wornBy("plain", "12", "24 2", 0), 6);
        due("12 by 2 24", wornBy("plain", "12", "2 24", 0), 6);
        due("12 by 5 24, open", wornBy("open", "12", "5 24", 0), 1);
        due("12 by 1 12, leap", wornBy("leap", "12", "1 12", 0), 1);
        due("12 by 12 1, leap", wornBy("leap", "12", "12 1", 0), 1);
        due("12 by 24 1, leap", wornBy("leap", "12", "24 1", 0), 12);
        due("12 by 2 24, down by law 1", wornBy("plain", "12", "2 24", 1), 6);
        says("its first one, if none does");
        due("12 by 5 7", wornBy("plain", "12", "5 7", 1), 3);
        due("12 by 7 5", wornBy("plain", "12", "7 5", 1), 2);
        due("12 by 24", wornBy("plain", "12", "24", 1), 1);
        due("12,13 by 24 7, leap", wornBy("leap", "12,13", "24 7", 1), 2);
    }

    private static void going() {
        says("a STAIR that begins or ends at its PLACE, up if it may CLIMB it, down by LAW: it is at the other end then");
        FittingStrides x = townOf("places 3;stair plain 0 1 6;stair plain 2 1 6;person 0 3;person 1 3;person 2 3;person 1 4;");
        due("go(0, 1) from 0", x.go(0, 1), NOT);
        due("go(2, 0) from 2", x.go(2, 0), NOT);
        due("go(0, 0) up", x.go(0, 0), 1);
        due("go(0, 1) down", x.go(0, 1), 2);
        due("go(2, 1) up", x.go(2, 1), 1);
        due("go(1, 0) down", x.go(1, 0), 0);
        says("LAW 0 (at first): down as up; LAW 1: down is free for all.");
        due("go(3, 0) by law 0", x.go(3, 0), NOT);
        due("person(3, 3) by law 0", x.person(3, 3), 2);
        x.law(1);
        due("person(3, 3) by law 1", x.person(3, 3), 7);
        due("go(3, 0) by law 1", x.go(3, 0), 0);
        due("go(3, 0) up by law 1", x.go(3, 0), NOT);
        due("person(3, 3) by law 1, below", x.person(3, 3), 1);
    }

    private static void building() {
        says("STEPS of a PART become n (1 .. 720): what they were");
        FittingStrides x = townOf("places 2;stair plain 0 1 5,6,7;" + stairs(8) + "stair open 0 1 1,2,3;");
        due("build(0, 0, 1)", x.build(0, 0, 1), 5);
        due("build(0, 0, 720)", x.build(0, 0, 720), 1);
        due("build(0, 2, 720)", x.build(0, 2, 720), 7);
        due("build(9, 2, 1)", x.build(9, 2, 1), 3);
        due("build(9, 2, 2)", x.build(9, 2, 2), 1);
        due("build(0, 1, 6): as it was", x.build(0, 1, 6), 6);
        due("stair(0, 4)", x.stair(0, 4), 720);
        due("stair(0, 5)", x.stair(0, 5), 6);
        due("stair(0, 6)", x.stair(0, 6), 720);
        due("stair(9, 6)", x.stair(9, 6), 2);
        says("LAW becomes v (0, 1): what it was");
        due("law(0)", x.law(0), 0);
        due("law(1)", x.law(1), 0);
        due("law(1)", x.law(1), 1);
        due("law(0)", x.law(0), 1);
        due("told(4)", x.told(4), 0);
        says("THE SEED becomes v (0 .. 2147483647): what it was");
        due("seed(MAX)", x.seed(MAX), 0);
        due("seed(0)", x.seed(0), MAX);
        due("seed(1)", x.seed(1), 0);
        due("seed(MAX - 1)", x.seed(MAX - 1), 1);
        due("seed(0)", x.seed(0), MAX - 1);
    }

    private static int next(int seed) {
        return (int) ((seed * 1103515245L + 12345L) % 2147483648L);
    }

    private static int after(int seed, int draws) {
        int s = seed;
        for (int i = 0; i < draws; i++) {
            s = next(s);
        }
        return s;
    }

    /** What the draw of n is that comes behind so many others. */
    private static int draw(int seed, int others, int n) {
        return after(seed, others + 1) / 65536 % n;
    }

    private static void draws() {
        says("each DRAW it becomes it times 1103515245 and 12345, left over by 2 to the 31");
        // By hand: 0 becomes 12345, then 1406932606, then 654583775.
        FittingStrides x = townOf("places 2;stair open 0 1 5;person 0 5;");
        due("drift(1)", x.drift(1), 1);
        due("seed(0)", x.seed(0), 654583775);
        for (int seed : new int[] {0, 1, 65535, 65536, 1073741823, 1073741824, MAX - 1, MAX}) {
            x = townOf("places 2;stair open 0 1 5;" + persons(8));
            x.seed(seed);
            x.drift(1);
            due("seed(0) from " + seed, x.seed(0), after(seed, 3));
        }
        says("the DRAW of n is it / 65536, left over by n: a DRAW of PERSONS, a DRAW of STAIRS");
        for (int seed = 0; seed < 60; seed++) {
            x = townOf("places 2;" + stairs(10) + persons(8));
            x.seed(seed);
            x.drift(1);
            for (int p = 0; p < 8; p++) {
                due("person(" + p + ", 0) from " + seed, x.person(p, 0), p == draw(seed, 0, 8) ? 1 : 0);
            }
            for (int r = 0; r < 10; r++) {
                due("stair(" + r + ", 7) from " + seed, x.stair(r, 7), r == draw(seed, 1, 10) ? 1 : 0);
            }
        }
        says("it goes that, if it can");
        for (int seed = 0; seed < 20; seed++) {
            x = townOf("places 2;stair plain 0 1 7;" + persons(8));
            x.seed(seed);
            due("drift(1)", x.drift(1), 8);
            due("told(7)", x.told(7), 0);
            due("seed(0)", x.seed(0), after(seed, 3));
        }
    }

    /** A seed by which a child is born on the first day, by that draw of 2 and of 24 (NONE: either). */
    private static int seedOfChild(int ofTwo, int ofStrides) {
        for (int seed = 0; seed < 1000000; seed++) {
            if (draw(seed, 2, 16) == 0 && draw(seed, 3, 2) == ofTwo && (ofStrides == NONE || draw(seed, 4, 24) == ofStrides)) {
                return seed;
            }
        }
        return NONE;
    }

    private static void children() {
        says("a DRAW of 2: on 0 its own first one");
        int own = seedOfChild(0, NONE);
        FittingStrides x = townOf("places 2;stair open 0 1 5;person 0 23 24;");
        x.seed(own);
        due("drift(1)", x.drift(1), 2);
        due("person(1, 1)", x.person(1, 1), 23);
        due("person(1, 2): with one STRIDE", x.person(1, 2), 0);
        due("person(1, 0): at its PLACE, where it is then", x.person(1, 0), 1);
        due("seed(0)", x.seed(0), after(own, 4));
        says("else a DRAW of 24 and 1");
        for (int ofStrides : new int[] {0, 1, 22, 23}) {
            int other = seedOfChild(1, ofStrides);
            x = townOf("places 2;stair open 0 1 5;person 0 7 8;");
            x.seed(other);
            due("drift(1)", x.drift(1), 2);
            due("person(1, 1)", x.person(1, 1), ofStrides + 1);
            due("person(1, 2)", x.person(1, 2), 0);
            due("seed(0)", x.seed(0), after(other, 5));
        }
        says("on 0 it has a child, if there are fewer than 8 PERSONS");
        for (int ofTwo = 0; ofTwo <= 1; ofTwo++) {
            int seed = seedOfChild(ofTwo, NONE);
            x = townOf("places 2;stair open 0 1 5;" + persons(7));
            x.seed(seed);
            due("drift(1) of seven", x.drift(1), 8);
            due("seed(0)", x.seed(0), after(seed, 4 + ofTwo));
            x = townOf("places 2;stair open 0 1 5;" + persons(8));
            x.seed(seed);
            due("drift(1) of eight", x.drift(1), 8);
            due("told(2)", x.told(2), 8);
            due("person(8, 0)", x.person(8, 0), UNKNOWN);
            due("seed(0): no more draws without a child", x.seed(0), after(seed, 3));
        }
        says("then a DRAW of 16: on 0: on none of the others");
        for (int seed = 0; seed < 200; seed++) {
            x = townOf("places 2;stair open 0 1 5;person 0 5;");
            x.seed(seed);
            due("drift(1) from " + seed, x.drift(1), draw(seed, 2, 16) == 0 ? 2 : 1);
        }
    }

    private static void days() {
        says("n days (1 .. 99) BY DRAWS: how many PERSONS there are");
        FittingStrides x = townOf("places 2;stair open 0 1 5;stair plain 1 0 7;" + persons(8));
        due("drift(1)", x.drift(1), 8);
        due("seed(0)", x.seed(0), after(0, 3));
        due("drift(99)", x.drift(99), 8);
        due("seed(0)", x.seed(0), after(0, 297));
        due("drift(98)", x.drift(98), 8);
        due("seed(9)", x.seed(9), after(0, 294));
        FittingStrides once = townOf("places 2;stair open 0 1 5;stair plain 1 0 7;person 0 7;");
        FittingStrides daily = townOf("places 2;stair open 0 1 5;stair plain 1 0 7;person 0 7;");
        int persons = once.drift(99);
        int last = 0;
        for (int day = 0; day < 99; day++) {
            last = daily.drift(1);
        }
        due("drift(1), 99 times", last, persons);
        due("drift(1), 99 times: told(7)", daily.told(7), once.told(7));
        due("drift(1), 99 times: seed(0)", daily.seed(0), once.seed(0));
    }

    private static void longUse() {
        says("An object is used for at most 512 calls after it has been made");
        String text = "places 2;stair plain 0 1 720,720,720;" + "person 0 1;".repeat(8);
        FittingStrides x = townOf(text);
        int drifts = 512 - 2 - (text.length() + 7) / 8;
        for (int i = 0; i < drifts; i++) {
            x.drift(99);
        }
        due("told(7), the last call: the most that can be WORN", x.told(7), drifts * 99 * 3 * 720);
    }

    // ---- promise 13 to 17

    private static void reach() {
        says("PLACES to which it can come by STAIRS (a SET; the PLACE itself, too)");
        FittingStrides x = townOf("places 8;person 7 24;person 0 24;");
        for (int place = 0; place < 8; place++) {
            due("reach(" + place + ", 24) without stairs", x.reach(place, 24), 1 << place);
            due("reach(" + place + ", 1) without stairs", x.reach(place, 1), 1 << place);
        }
        due("person(0, 3)", x.person(0, 3), 128);
        x = townOf("places 8;stair open 6 7 1;stair open 5 6 1;stair open 4 5 1;stair open 3 4 1;stair open 2 3 1;"
                + "stair open 1 2 1;stair open 0 1 1;person 0 9;person 7 9;");
        for (int place = 0; place < 8; place++) {
            due("reach(" + place + ", 24) on a line", x.reach(place, 24), 255);
        }
        due("person(0, 3) on a line", x.person(0, 3), 255);
        due("person(1, 3) on a line", x.person(1, 3), 255);
        x = townOf(LINE);
        x.law(1);
        for (int place = 0; place < 8; place++) {
            due("reach(" + place + ", 24) down alone", x.reach(place, 24), (2 << place) - 1);
        }
        says("REACH of somebody with some STRIDES");
        x = townOf("places 3;stair plain 0 1 5;stair plain 1 2 7;person 0 5 7;person 2 5 7;person 1 7;person 1 5;person 0 7;");
        int[] far = {7, 7, 6, 3, 1};
        for (int p = 0; p < 5; p++) {
            due("person(" + p + ", 3)", x.person(p, 3), far[p]);
        }
        says("REACH of one STRIDE (1 .. 24) from a PLACE");
        x = townOf(LINE);
        due("reach(0, 1)", x.reach(0, 1), 255);
        due("reach(0, 2)", x.reach(0, 2), 3);
        due("reach(6, 17)", x.reach(6, 17), 192);
        due("reach(7, 24)", x.reach(7, 24), 128);
    }

    private static void guests() {
        says("PERSONS that can come to where a PERSON is (a SET, itself not)");
        due("guests(0) of one alone", townOf("places 1;person 0 5;").guests(0), 0);
        FittingStrides x = townOf("places 2;" + persons(8));
        due("guests(0) of eight at one place", x.guests(0), 254);
        due("guests(7) of eight at one place", x.guests(7), 127);
        x = townOf("places 2;stair plain 0 1 7;person 0 5;person 1 5;person 0 7;");
        due("guests(0)", x.guests(0), 4);
        due("guests(1)", x.guests(1), 4);
        due("guests(2)", x.guests(2), 1);
        x.law(1);
        due("guests(0) by law 1", x.guests(0), 6);
        due("guests(1) by law 1", x.guests(1), 4);
    }

    private static void wish() {
        says("WISH: the least number of steps, 1 to 100000");
        FittingStrides x = townOf("places 1;person 0 4;person 0 7;person 0 11;person 0 17;person 0 19;person 0 1;");
        due("wish(31, 0): 99484", x.wish(31, 0), 99484);
        due("wish(32, 0)", x.wish(32, 0), 1);
        due("wish(0, 0)", x.wish(0, 0), 1);
        due("wish(0, 31)", x.wish(0, 31), 1);
        x = townOf("places 1;person 0 13;person 0 16;person 0 21;person 0 23;");
        due("wish(7, 0)", x.wish(7, 0), 4368);
        due("wish(15, 0): 100464 would be", x.wish(15, 0), NONE);
        x = townOf("places 1;person 0 16;person 0 9;person 0 5;person 0 7;person 0 11;person 0 13;person 0 17;person 0 19;");
        due("wish(255, 0): 232792560 would be", x.wish(255, 0), NONE);
        x = townOf("places 1;person 0 24;person 0 23;person 0 19;person 0 17;person 0 13;person 0 11;person 0 7;person 0 5;");
        due("wish(255, 0): more than 2 to the 31 would be", x.wish(255, 0), NONE);
        x = townOf("places 1;" + "person 0 24;".repeat(8));
        due("wish(255, 0) of like ones", x.wish(255, 0), 24);
        says("STRIDES of all of a SET of PERSONS (the first of each)");
        x = townOf("places 1;person 0 6 5;person 0 5 6;person 0 24 3;person 0 3;");
        due("wish(1, 0)", x.wish(1, 0), 6);
        due("wish(2, 0)", x.wish(2, 0), 5);
        due("wish(3, 0)", x.wish(3, 0), 30);
        says("and none (neither one) of another SET: NONE: there is none");
        due("wish(1, 2): its second goes into 6", x.wish(1, 2), NONE);
        due("wish(2, 1): its second goes into 5", x.wish(2, 1), NONE);
        due("wish(2, 12)", x.wish(2, 12), 5);
        due("wish(1, 4): its second goes into 6", x.wish(1, 4), NONE);
        due("wish(1, 8): its only one goes into 6", x.wish(1, 8), NONE);
        due("wish(1, 1): the same one", x.wish(1, 1), NONE);
        due("wish(0, 15): 1 step", x.wish(0, 15), 1);
        due("wish(0, 1) of stride 1", townOf("places 1;person 0 1;").wish(0, 1), NONE);
        due("wish(0, 1) of a second stride 1", townOf("places 1;person 0 2 1;").wish(0, 1), NONE);
    }

    private static void pair() {
        says("PLACES to which two can both come from where they are (a SET)");
        FittingStrides x = townOf("places 8;stair plain 0 7 6;person 0 6;person 7 6;person 7 5;person 3 5;");
        due("pair(0, 1, 0)", x.pair(0, 1, 0), 129);
        due("pair(1, 2, 0)", x.pair(1, 2, 0), 128);
        due("pair(0, 3, 0): none", x.pair(0, 3, 0), 0);
        due("pair(3, 0, 0): none", x.pair(3, 0, 0), 0);
        says("the least number of steps that the first STRIDES of both GO INTO");
        due("pair(0, 1, 1): like ones", x.pair(0, 1, 1), 6);
        due("pair(2, 1, 1)", x.pair(2, 1, 1), 30);
        x = townOf("places 1;person 0 1 24;person 0 1 23;person 0 24;person 0 23;person 0 12;person 0 18;");
        due("pair(0, 1, 1): 1 and 1", x.pair(0, 1, 1), 1);
        due("pair(2, 3, 1): 24 and 23", x.pair(2, 3, 1), 552);
        due("pair(2, 4, 1): 24 and 12", x.pair(2, 4, 1), 24);
        due("pair(4, 2, 1): 12 and 24", x.pair(4, 2, 1), 24);
        due("pair(4, 5, 1): 12 and 18", x.pair(4, 5, 1), 36);
        due("pair(0, 5, 1): the second is not looked at", x.pair(0, 5, 1), 18);
    }

    private static void carried() {
        says("the fewest unlike carriers");
        FittingStrides x = townOf(LINE);
        for (int place = 0; place < 8; place++) {
            due("carried(0, " + place + ", 0)", x.carried(0, place, 0), place);
            due("carried(0, " + place + ", 1)", x.carried(0, place, 1), (1 << place) - 1 << 1);
        }
        x = townOf("places 3;stair plain 0 1 7;stair plain 1 2 7;person 0 5;person 0 7;");
        due("carried(0, 2, 0): the same one twice", x.carried(0, 2, 0), 1);
        due("carried(0, 2, 1)", x.carried(0, 2, 1), 2);
        says("over each STAIR it goes by itself, or is carried");
        x = townOf("places 3;stair plain 0 1 5;stair plain 1 2 7;person 0 5;person 1 7;person 0 5 7;");
        due("carried(0, 1, 0) by itself", x.carried(0, 1, 0), 0);
        due("carried(0, 1, 1) by itself", x.carried(0, 1, 1), 0);
        due("carried(0, 2, 1): the rest of the way", x.carried(0, 2, 1), 2);
        due("carried(2, 2, 1) by its own two strides", x.carried(2, 2, 1), 0);
        due("carried(0, 0, 0) to where it is", x.carried(0, 0, 0), 0);
        due("carried(0, 0, 1) to where it is", x.carried(0, 0, 1), 0);
        says("a PERSON who may go it and who can come, by itself, from where it is, to the end from which it is gone");
        x = townOf("places 3;stair plain 0 1 7;stair plain 1 2 5;person 0 3;person 1 7;person 2 7;");
        due("carried(0, 1, 1): it comes down for it", x.carried(0, 1, 1), 2);
        x = townOf("places 3;stair plain 0 1 7;stair plain 1 2 5;person 0 3;person 2 7;");
        due("carried(0, 1, 1): it does not come down", x.carried(0, 1, 1), NONE);
        due("carried(0, 1, 0): it does not come down", x.carried(0, 1, 0), NONE);
        x.law(1);
        due("carried(0, 1, 1): down is free", x.carried(0, 1, 1), 2);
        x = townOf("places 2;stair plain 0 1 7;person 0 7;person 0 3;person 1 3;");
        due("carried(1, 1, 1) by the first", x.carried(1, 1, 1), 1);
        due("carried(2, 0, 1) by the first", x.carried(2, 0, 1), 1);
        x.build(0, 0, 11);
        due("carried(1, 1, 1) by nobody any more", x.carried(1, 1, 1), NONE);
        due("carried(2, 0, 1) by nobody any more", x.carried(2, 0, 1), NONE);
        x = townOf("places 3;stair plain 0 1 7;stair plain 1 2 11;person 0 3;person 0 7 11;person 2 3;");
        due("carried(0, 2, 1) by one with two", x.carried(0, 2, 1), 2);
        due("carried(2, 0, 1) by one with two", x.carried(2, 0, 1), 2);
        x = townOf("places 3;stair plain 0 1 7;stair plain 1 2 11;person 0 3;person 1 11;person 2 7;");
        x.law(1);
        due("carried(0, 2, 1) by those who come down for it", x.carried(0, 2, 1), 6);
        due("carried(0, 1, 1) by one who comes down for it", x.carried(0, 1, 1), 4);
        x.law(0);
        due("carried(0, 1, 1) by nobody any more", x.carried(0, 1, 1), NONE);
        x = townOf("places 3;stair plain 0 1 7;stair plain 1 2 11;person 2 3;person 0 7;person 1 11;");
        due("carried(0, 0, 0) down by both", x.carried(0, 0, 0), 2);
        due("carried(0, 0, 1) down by both", x.carried(0, 0, 1), 6);
        x = townOf("places 4;stair plain 0 1 7;stair plain 2 1 5;stair plain 3 2 7;person 3 3;person 3 7;person 2 5;person 0 7;");
        due("carried(0, 0, 1): up, up and down", x.carried(0, 0, 1), 14);
        due("carried(0, 1, 1): up and up", x.carried(0, 1, 1), 6);
        x = townOf("places 2;stair plain 0 1 7;person 1 3;person 0 7;");
        due("carried(0, 0, 1): it comes up for it", x.carried(0, 0, 1), 2);
        says("of like ones the least SET; NONE");
        x = townOf("places 2;stair plain 0 1 7;person 0 3;person 0 7;person 0 7;person 0 1;");
        due("carried(0, 1, 1)", x.carried(0, 1, 1), 2);
        due("carried(0, 1, 1) to where no stair goes", townOf("places 2;person 0 3;person 0 1;").carried(0, 1, 1), NONE);
        due("carried(0, 1, 0) to where no stair goes", townOf("places 2;person 0 3;person 0 1;").carried(0, 1, 0), NONE);
        x = townOf("places 2;stair plain 0 1 7;stair plain 0 1 5;" + "person 0 3;".repeat(7) + "person 0 5;");
        due("carried(0, 1, 1) by the last", x.carried(0, 1, 1), 128);
        x = townOf("places 3;stair plain 0 1 2;stair plain 1 2 3;stair plain 0 2 5;person 0 7;person 0 2;person 1 3;person 0 5;");
        due("carried(0, 2, 1): fewer go ahead of less", x.carried(0, 2, 1), 8);
    }

    // ---- promise 18 to 21

    private static void step() {
        says("A STEP MORE (by 1) or LESS (by -1) in a PART of a STAIR (1 .. 720 still)");
        FittingStrides x = townOf("places 2;stair plain 0 1 719;stair plain 0 1 2;stair plain 0 1 720;stair plain 0 1 1;person 0 24;person 0 1;");
        due("step(0, 0, 1, 0): 720", x.step(0, 0, 1, 0), 1);
        due("step(1, 0, -1, 1): 1", x.step(1, 0, -1, 1), 0);
        due("step(2, 0, -1, 1): 719", x.step(2, 0, -1, 1), 1);
        due("step(3, 0, 1, 0): 2", x.step(3, 0, 1, 0), 0);
        due("step(2, 0, 1, 0): 721", x.step(2, 0, 1, 0), OUTSIDE);
        due("step(3, 0, -1, 1): 0", x.step(3, 0, -1, 1), OUTSIDE);
        due("stair(0, 4): it is only asked for", x.stair(0, 4), 719);
        says("how many PERSONS may CLIMB it then that may not now; how many may not that may now");
        x = townOf("places 2;stair plain 0 1 24,12;" + "person 0 12;".repeat(8));
        due("step(0, 1, 1, 1): all", x.step(0, 1, 1, 1), 8);
        due("step(0, 1, 1, 0): none", x.step(0, 1, 1, 0), 0);
        x.build(0, 0, 23);
        due("step(0, 0, 1, 0): all", x.step(0, 0, 1, 0), 8);
        due("step(0, 0, 1, 1): none", x.step(0, 0, 1, 1), 0);
        due("step(0, 1, 1, 0): the other part shuts out", x.step(0, 1, 1, 0), 0);
        x = townOf("places 2;stair leap 0 1 5,6;stair open 0 1 5;person 0 6 7;person 0 5;person 0 1;");
        due("step(0, 0, 1, 0)", x.step(0, 0, 1, 0), 1);
        due("step(0, 1, -1, 0)", x.step(0, 1, -1, 0), 1);
        due("step(1, 0, 1, 1)", x.step(1, 0, 1, 1), 0);
        due("step(0, 0, 1, 0) of nobody", townOf("places 2;stair leap 0 1 5;").step(0, 0, 1, 0), 0);
    }

    private static void dueWorst(FittingStrides x, int stair, int part, int count) {
        due("worst(0)", x.worst(0), stair);
        due("worst(1)", x.worst(1), part);
        due("worst(2)", x.worst(2), count);
    }

    private static void worst() {
        says("WORST STEP: of all STAIRS and PARTS: the first and the last of all");
        dueWorst(townOf("places 2;stair plain 0 1 5;" + stairs(9) + persons(8)), 0, 0, 8);
        // By a step less in the first PART one of them gets up by 3, in the second one the other by 5.
        dueWorst(townOf("places 2;" + stairs(9) + "stair plain 0 1 10,6,30;person 0 2 3;person 0 2 5;"), 9, 2, 2);
        says("that by which most may CLIMB it no more");
        dueWorst(townOf("places 2;stair plain 0 1 7;stair plain 0 1 6;person 0 7;person 0 6;person 0 3;"), 1, 0, 2);
        // One step less in the leap's second part shuts out the one whose stride both are; of 2 and 3 none but 1 was in.
        dueWorst(townOf("places 2;stair leap 0 1 2,3;stair leap 0 1 9,9;person 0 9;person 0 3;person 0 1;"), 1, 0, 1);
        says("of like ones the lesser STAIR, then the lesser PART");
        dueWorst(townOf("places 2;stair open 0 1 5;stair plain 0 1 5,5;stair plain 0 1 5;person 0 5;"), 1, 0, 1);
        says("one step less (1 at least stays)");
        dueWorst(townOf("places 2;stair plain 0 1 1;stair leap 0 1 1;stair plain 0 1 2;person 0 1;person 0 2;"), 2, 0, 1);
        dueWorst(townOf("places 2;stair plain 0 1 1,1,1;person 0 1;"), NONE, NONE, NONE);
        says("NONE: none is shut out by any");
        dueWorst(townOf("places 2;person 0 5;"), NONE, NONE, NONE);
        dueWorst(townOf("places 2;stair plain 0 1 5;"), NONE, NONE, NONE);
        dueWorst(townOf("places 2;stair open 0 1 5;person 0 5;"), NONE, NONE, NONE);
        dueWorst(townOf("places 2;stair plain 0 1 5;person 0 1;"), NONE, NONE, NONE);
    }

    private static void best() {
        says("BEST STRIDE from a PLACE: of 1 to 24 that from which most PLACES are in REACH");
        FittingStrides x = townOf(LINE);
        due("best(0): 1 alone gets all the way", x.best(0), 1);
        x = townOf("places 2;stair plain 0 1 24;stair plain 1 0 720;");
        due("best(0): 24", x.best(0), 24);
        due("best(1): 24", x.best(1), 24);
        x = townOf("places 3;stair leap 0 1 23;stair plain 1 2 23;");
        due("best(0): 23", x.best(0), 23);
        says("of like ones the greatest");
        due("best(0) without stairs", townOf("places 1;").best(0), 24);
        due("best(7) without stairs", townOf("places 8;").best(7), 24);
        due("best(0) of 12", townOf("places 2;stair plain 0 1 12;").best(0), 12);
        x = townOf("places 3;stair plain 0 1 12;");
        due("best(2): none is better than another", x.best(2), 24);
        x.law(1);
        due("best(1): down is free", x.best(1), 24);
        due("best(0): up is not", x.best(0), 12);
    }

    private static void cover() {
        says("COVER: the fewest PERSONS so that each STAIR may be CLIMBED by one of them (a SET)");
        due("cover() without stairs", townOf("places 2;" + persons(8)).cover(), 0);
        due("cover() without all", townOf("places 2;").cover(), 0);
        due("cover() of ten by one", townOf("places 2;" + stairs(10) + "person 0 5;").cover(), 1);
        FittingStrides x = townOf("places 2;stair plain 0 1 2;stair plain 0 1 3;stair plain 0 1 5;stair plain 0 1 7;stair plain 0 1 11;"
                + "stair plain 0 1 13;stair plain 0 1 17;stair plain 0 1 19;stair open 0 1 1;stair open 0 1 1;person 0 2;person 0 3;"
                + "person 0 5;person 0 7;person 0 11;person 0 13;person 0 17;person 0 19;");
        due("cover() by all eight", x.cover(), 255);
        x.build(7, 0, 34);
        due("cover() by seven", x.cover(), 127);
        says("of like ones the least; NONE");
        x.build(7, 0, 23);
        due("cover(): one that nobody climbs", x.cover(), NONE);
        due("cover() of nobody", townOf("places 2;stair open 0 1 5;").cover(), NONE);
        due("cover() of like ones", townOf("places 2;stair open 0 1 5;" + persons(8)).cover(), 1);
        due("cover() by the last", townOf("places 2;stair plain 0 1 7;" + persons(7) + "person 1 7;").cover(), 128);
        due("cover(): fewer go ahead of less", townOf("places 2;stair plain 0 1 5;stair plain 0 1 7;person 0 5;person 0 7;"
                + "person 0 5 7;").cover(), 4);
    }

    // ---- promise 22 to 30

    private static void seen() {
        says("SEEN (20 at most): how many");
        FittingStrides x = townOf("places 8;stair plain 0 7 12;");
        for (int round = 0; round < 2; round++) {
            for (int i = 1; i <= 20; i++) {
                due("see(0, 7, true)", x.see(0, 7, true), i);
            }
            due("see(0, 7, true), the 21st", x.see(0, 7, true), FULL);
            due("tear()", x.tear(), 20);
        }
        says("FITS .. by which it is as SEEN: the 20th, too");
        for (int i = 1; i <= 19; i++) {
            x.see(0, 7, true);
        }
        due("fits()", x.fits(), 1 + 2 + 4 + 8 + 32 + (1 << 11));
        x.see(7, 0, false);
        due("fits()", x.fits(), 0);
        says("STRIDES of 1 to 24 (a SET, bit s less 1 for s)");
        x = townOf("places 3;stair plain 0 1 24;stair leap 0 2 24;stair plain 1 2 1;");
        due("fits() of nothing seen", x.fits(), ALL_STRIDES);
        x.see(0, 2, true);
        due("fits(): 1 and 24", x.fits(), 1 + (1 << 23));
        x.see(1, 2, false);
        due("fits(): 24 goes around", x.fits(), 0);
        x.tear();
        x.see(0, 1, false);
        due("fits(): what does not go into 24", x.fits(), ALL_STRIDES & ~(1 + 2 + 4 + 8 + 32 + 128 + (1 << 11) + (1 << 23)));
        says("that began at PLACE b, was at a PLACE, or could not get there: its own one");
        x.tear();
        x.see(2, 2, true);
        due("fits()", x.fits(), ALL_STRIDES);
        x.see(2, 2, false);
        due("fits()", x.fits(), 0);
    }

    private static void ask() {
        says("of STAIRS that some of these FIT and some do not");
        due("ask() without stairs", townOf("places 2;").ask(), NONE);
        due("ask(): all fit", townOf("places 2;stair open 0 1 5;").ask(), NONE);
        due("ask(): 1 and 23 others", townOf("places 2;stair open 0 1 5;stair leap 0 1 720;").ask(), 1);
        due("ask(): the first", townOf("places 2;stair plain 0 1 5;" + stairs(9)).ask(), 0);
        due("ask(): the last of ten", townOf("places 2;" + stairs(9) + "stair plain 0 1 5;").ask(), 9);
        FittingStrides x = townOf("places 3;stair plain 0 1 7;stair plain 1 2 11;stair plain 0 1 12;");
        x.see(0, 1, true);
        x.see(0, 2, true);
        due("fits(): 1 alone", x.fits(), 1);
        due("ask() of one stride", x.ask(), NONE);
        x.see(0, 0, false);
        due("ask() of none", x.ask(), NONE);
        x = townOf("places 2;stair leap 0 1 5;stair leap 0 1 7;");
        x.see(0, 1, false);
        due("ask(): none of these fits any", x.ask(), NONE);
        says("by which both numbers are nearest to one another; of like ones the least");
        x = townOf("places 2;stair plain 0 1 24;stair leap 0 1 3;stair plain 0 1 720;stair plain 0 1 360;");
        due("ask(): 8, 2, 14 and 13 of 24", x.ask(), 3);
        x.build(3, 0, 720);
        due("ask(): like ones", x.ask(), 2);
        x = townOf("places 2;stair plain 0 1 6;stair plain 0 1 4;stair plain 0 1 5;stair plain 0 1 12;");
        x.build(0, 0, 12);
        x.see(0, 1, true);
        due("fits(): of 12, 4 and 5", x.fits(), 1 + 2 + 4 + 8 + 16 + 32 + (1 << 11));
        due("ask(): 6, 3, 2 and 6 of 7", x.ask(), 1);
        x.build(2, 0, 6);
        due("fits(): of 12", x.fits(), 1 + 2 + 4 + 8 + 32 + (1 << 11));
        due("ask(): 6, 3, 4 and 6 of 6", x.ask(), 1);
        x.build(1, 0, 6);
        x.build(2, 0, 4);
        due("ask(): 6, 4, 3 and 6 of 6", x.ask(), 2);
        x.build(2, 0, 5);
        x.build(2, 0, 2);
        due("ask(): 4 in and 2 out, 2 in and 4 out: like ones", x.ask(), 1);
    }

    private static void book() {
        says("THE BOOK is a row of (PERSON, STAIR), 40 at most: how many");
        FittingStrides x = townOf("places 2;" + stairs(9) + "stair plain 0 1 7;" + persons(7) + "person 1 24;");
        for (int round = 0; round < 2; round++) {
            for (int i = 1; i <= 40; i++) {
                due("write(7, 8)", x.write(7, 8), i);
            }
            due("write(7, 8), the 41st", x.write(7, 8), FULL);
            says("WRONG: the first that cannot be gone; NONE");
            due("judge() of 40 right ones", x.judge(), NONE);
            says("THE BOOK is empty, nothing is SEEN: how many both had");
            due("tear()", x.tear(), 40);
            due("told(6)", x.told(6), 0);
        }
        for (int i = 1; i <= 20; i++) {
            x.see(0, 0, true);
        }
        for (int i = 1; i <= 40; i++) {
            x.write(0, 0);
        }
        due("tear() of all", x.tear(), 60);
        due("tear() of nothing", x.tear(), 0);
        x.see(0, 0, false);
        due("tear() of one seen", x.tear(), 1);
        due("fits()", x.fits(), ALL_STRIDES);
        x.write(0, 0);
        due("tear() of one written", x.tear(), 1);
        says("journeys tried from now: WRONG: the first that cannot be gone");
        due("judge() of nothing", x.judge(), NONE);
        for (int i = 1; i <= 39; i++) {
            x.write(0, i % 9);
        }
        x.write(7, 9);
        due("judge(): the last", x.judge(), 39);
        x.build(9, 0, 24);
        due("judge(): none", x.judge(), NONE);
        x.tear();
        x.write(0, 9);
        x.write(0, 9);
        due("judge(): the first of two", x.judge(), 0);
        x.law(1);
        due("judge(): up", x.judge(), 0);
        x.go(0, 0);
        due("judge(): down is free, then up", x.judge(), 1);
        due("told(7): nobody has gone by it", x.told(7), 1);
    }

    private static void unborn() {
        says("WRONG: the first that cannot be gone: by one who was not yet born");
        FittingStrides x = townOf("places 2;stair open 0 1 7;person 0 3;");
        x.law(1);
        x.keep(0);
        for (int day = 0; day < 99 && x.told(2) < 2; day++) {
            x.drift(1);
        }
        x.write(1, 0);
        if (x.person(1, 0) == 1) {
            x.write(1, 0);
        }
        due("judge()", x.judge(), NONE);
        x.goBack(0);
        due("told(2)", x.told(2), 1);
        due("judge()", x.judge(), 0);
    }

    private static void images() {
        says("IMAGE i becomes what is so: 1; What is so becomes IMAGE i: 1");
        FittingStrides x = townOf("places 2;stair open 0 1 7,8;stair leap 0 1 9;person 0 3 5;");
        due("keep(0) as it was told", x.keep(0), 1);
        due("goBack(1)", x.goBack(1), NOT);
        x.drift(99);
        x.drift(99);
        x.drift(99);
        due("eight in the end", x.told(2), 8);
        x.build(0, 1, 720);
        x.build(1, 0, 1);
        x.law(1);
        int worn = x.told(7);
        int place = x.person(7, 0);
        int stride = x.person(7, 1);
        x.seed(MAX);
        due("keep(1)", x.keep(1), 1);
        says("IMAGES 0, 1 keep PERSONS, where they are, STEPS of STAIRS, what is WORN, LAW, THE SEED");
        for (int round = 0; round < 2; round++) {
            due("goBack(0)", x.goBack(0), 1);
            due("told(2)", x.told(2), 1);
            due("person(1, 0)", x.person(1, 0), UNKNOWN);
            due("person(0, 0)", x.person(0, 0), 0);
            due("person(0, 2)", x.person(0, 2), 5);
            due("stair(0, 5)", x.stair(0, 5), 8);
            due("stair(1, 4)", x.stair(1, 4), 9);
            due("told(7)", x.told(7), 0);
            due("law(1)", x.law(1), 0);
            due("seed(4)", x.seed(4), 0);
            due("goBack(1)", x.goBack(1), 1);
            due("told(2)", x.told(2), 8);
            due("person(7, 0)", x.person(7, 0), place);
            due("person(7, 1)", x.person(7, 1), stride);
            due("stair(0, 5)", x.stair(0, 5), 720);
            due("stair(1, 4)", x.stair(1, 4), 1);
            due("told(7)", x.told(7), worn);
            due("law(0)", x.law(0), 1);
            due("seed(4)", x.seed(4), MAX);
        }
        says("IMAGES .. keep nothing else: what was SEEN, THE BOOK, THE TEXT stay");
        x.see(0, 1, true);
        x.write(7, 0);
        feed(x, "abc");
        x.goBack(0);
        due("told(3)", x.told(3), 3);
        due("told(5)", x.told(5), 1);
        due("told(6)", x.told(6), 1);
        due("judge() of one who is not there", x.judge(), 0);
        x.town();
        due("fault()", x.fault(), 0);
        x.goBack(1);
        due("fault() still", x.fault(), 0);
        due("judge() of one who is there again", x.judge(), NONE);
        says("IMAGE i becomes what is so: once more");
        x.build(0, 0, 500);
        due("keep(0)", x.keep(0), 1);
        x.build(0, 0, 5);
        due("goBack(0)", x.goBack(0), 1);
        due("stair(0, 4)", x.stair(0, 4), 500);
        due("goBack(1): the other one is as it was", x.goBack(1), 1);
        due("stair(0, 4)", x.stair(0, 4), 7);
    }

    public static void main(String[] args) {
        newObject();
        newTown();
        numbered();
        counted();
        goesInto();
        worn();
        going();
        building();
        draws();
        children();
        days();
        longUse();
        reach();
        guests();
        wish();
        pair();
        carried();
        step();
        worst();
        best();
        cover();
        seen();
        ask();
        book();
        unborn();
        images();
        end();
    }
}
