import java.util.ArrayList;
import java.util.List;

/** Each refusal of each call, the first of two that hold at once, and that nothing has changed behind it. */
public final class RefusalTests extends Checks {
    private interface Call {
        int on(FittingStrides x);
    }

    private interface Maker {
        FittingStrides make();
    }

    private record Refused(String name, int refusal, Call call) { }

    /** Three places, two stairs (one PART, two PARTS), two persons. */
    private static final String SMALL = "places 3;stair plain 0 1 12;stair open 1 2 720,1;person 0 4;person 1 5 7;";

    private static final int[] NO_IMAGE = {MIN, -1, 2, 3, 31, 32, MAX};
    private static final int[] NO_STRIDE = {MIN, -1, 0, 25, 48, MAX};
    private static final int[] NO_STEPS = {MIN, -1, 0, 721, 1000, MAX};

    private static final List<Refused> REFUSED = new ArrayList<>();

    private static void refuse(String name, int refusal, Call call) {
        REFUSED.add(new Refused(name, refusal, call));
    }

    /** Numbers that are none of the first so many. */
    private static int[] beyond(int count) {
        return new int[] {MIN, -2, -1, count, count + 1, 31, 32, 33, 64, MAX};
    }

    /** A town with something in everything that it has, and room in all of it. */
    private static FittingStrides small() {
        FittingStrides x = untold();
        feed(x, "places 2;person 0 9");
        return x;
    }

    /** The same with an empty text. */
    private static FittingStrides untold() {
        FittingStrides x = townOf(SMALL);
        x.keep(1);
        x.go(0, 0);
        x.seed(77);
        x.keep(0);
        x.law(1);
        x.build(0, 0, 8);
        x.go(1, 1);
        x.see(0, 2, true);
        x.see(1, 0, false);
        x.write(0, 0);
        x.write(1, 1);
        x.write(1, 0);
        return x;
    }

    /** As much as there may be of all; no image. */
    private static FittingStrides full() {
        StringBuilder s = new StringBuilder("places 8;");
        for (int r = 0; r < 10; r++) {
            s.append("stair plain ").append(r % 8).append(' ').append((r + 1) % 8).append(" 24,48,72;");
        }
        for (int p = 0; p < 8; p++) {
            s.append("person ").append(p).append(' ').append(3 * p + 1).append(" 8;");
        }
        FittingStrides x = townOf(s.toString());
        x.seed(MAX);
        // The last one tells more than the others, so that another one in its stead would show.
        for (int i = 0; i < 20; i++) {
            x.see(0, i / 19, true);
        }
        for (int i = 0; i < 40; i++) {
            x.write(0, 0);
        }
        feed(x, "places 7;" + " ".repeat(491));
        return x;
    }

    /** Nobody gets up from anywhere. */
    private static FittingStrides stuck(int law) {
        FittingStrides x = townOf("places 3;stair plain 0 1 7;stair leap 1 2 6;person 0 5;person 1 3;person 2 2;");
        x.law(law);
        return x;
    }

    private static FittingStrides faulty() {
        FittingStrides x = townOf("places 2;person 0 5;");
        feed(x, "places 2;stair");
        x.town();
        return x;
    }

    private static void look(FittingStrides x, List<Integer> answers) {
        for (int what = 0; what <= 7; what++) {
            answers.add(x.told(what));
        }
        int persons = x.told(2);
        for (int p = 0; p < persons; p++) {
            answers.add(x.person(p, 0));
            answers.add(x.person(p, 1));
            answers.add(x.person(p, 2));
        }
        int stairs = x.told(1);
        for (int r = 0; r < stairs; r++) {
            for (int what = 4; what <= 7; what++) {
                answers.add(x.stair(r, what));
            }
        }
        answers.add(x.seed(3));
    }

    /** All that can be got to know of an object, its images and its text, too. */
    private static List<Integer> all(FittingStrides x) {
        List<Integer> answers = new ArrayList<>();
        answers.add(x.fault());
        answers.add(x.fits());
        answers.add(x.judge());
        look(x, answers);
        for (int i = 0; i <= 1; i++) {
            answers.add(x.goBack(i));
            look(x, answers);
        }
        answers.add(x.tear());
        answers.add(x.town());
        answers.add(x.fault());
        look(x, answers);
        return answers;
    }

    /** Runs what was put down, each on its own object, beside one that is not asked for it. */
    private static void run(Maker maker) {
        List<Integer> want = all(maker.make());
        for (Refused refused : REFUSED) {
            FittingStrides x = maker.make();
            due(refused.name, refused.call.on(x), refused.refusal);
            List<Integer> got = all(x);
            due("how much there is to see behind " + refused.name, got.size(), want.size());
            for (int i = 0; i < Math.min(got.size(), want.size()); i++) {
                due("number " + i + " of what is to see behind " + refused.name, got.get(i), want.get(i));
            }
        }
        REFUSED.clear();
    }

    /** Of calls that take numbers of places, stairs and persons: what there is not. */
    private static void unknown(int places, int stairs, int persons) {
        for (int place : beyond(places)) {
            refuse("reach(" + place + ", 1)", UNKNOWN, x -> x.reach(place, 1));
            refuse("best(" + place + ")", UNKNOWN, x -> x.best(place));
            refuse("carried(0, " + place + ", 0)", UNKNOWN, x -> x.carried(0, place, 0));
            refuse("see(" + place + ", 0, true)", UNKNOWN, x -> x.see(place, 0, true));
            refuse("see(0, " + place + ", false)", UNKNOWN, x -> x.see(0, place, false));
        }
        for (int r : beyond(stairs)) {
            refuse("stair(" + r + ", 0)", UNKNOWN, x -> x.stair(r, 0));
            refuse("stair(" + r + ", 8)", UNKNOWN, x -> x.stair(r, 8));
            refuse("fit(" + r + ", 1)", UNKNOWN, x -> x.fit(r, 1));
            refuse("go(0, " + r + ")", UNKNOWN, x -> x.go(0, r));
            refuse("build(" + r + ", 0, 5)", UNKNOWN, x -> x.build(r, 0, 5));
            refuse("step(" + r + ", 0, 1, 0)", UNKNOWN, x -> x.step(r, 0, 1, 0));
            refuse("write(0, " + r + ")", UNKNOWN, x -> x.write(0, r));
        }
        for (int p : beyond(persons)) {
            refuse("person(" + p + ", 0)", UNKNOWN, x -> x.person(p, 0));
            refuse("person(" + p + ", 3)", UNKNOWN, x -> x.person(p, 3));
            refuse("go(" + p + ", 0)", UNKNOWN, x -> x.go(p, 0));
            refuse("guests(" + p + ")", UNKNOWN, x -> x.guests(p));
            refuse("pair(" + p + ", 0, 0)", UNKNOWN, x -> x.pair(p, 0, 0));
            refuse("pair(0, " + p + ", 1)", UNKNOWN, x -> x.pair(0, p, 1));
            refuse("carried(" + p + ", 0, 0)", UNKNOWN, x -> x.carried(p, 0, 0));
            refuse("write(" + p + ", 0)", UNKNOWN, x -> x.write(p, 0));
        }
        for (int i : NO_IMAGE) {
            refuse("keep(" + i + ")", UNKNOWN, x -> x.keep(i));
            refuse("goBack(" + i + ")", UNKNOWN, x -> x.goBack(i));
        }
    }

    private static void bitsOfNobody(int persons) {
        for (int bit = persons; bit < 32; bit++) {
            int set = 1 << bit;
            refuse("wish(" + set + ", 0)", UNKNOWN, x -> x.wish(set, 0));
            refuse("wish(0, " + set + ")", UNKNOWN, x -> x.wish(0, set));
            refuse("wish(" + (set | 1) + ", 0)", UNKNOWN, x -> x.wish(set | 1, 0));
        }
        refuse("wish(-1, 0)", UNKNOWN, x -> x.wish(-1, 0));
        refuse("wish(0, -1)", UNKNOWN, x -> x.wish(0, -1));
        refuse("wish(MAX, MAX)", UNKNOWN, x -> x.wish(MAX, MAX));
    }

    private static void unknowns() {
        says("UNKNOWN (a PLACE, STAIR, PERSON, IMAGE that there is not; bits of such)");
        unknown(3, 2, 2);
        bitsOfNobody(2);
        run(RefusalTests::small);
        unknown(8, 10, 8);
        bitsOfNobody(8);
        run(RefusalTests::full);
        unknown(0, 0, 0);
        bitsOfNobody(0);
        run(FittingStrides::new);
        says("UNKNOWN (a PART, too)");
        for (int part : beyond(1)) {
            refuse("build(0, " + part + ", 5)", UNKNOWN, x -> x.build(0, part, 5));
            refuse("step(0, " + part + ", 1, 0)", UNKNOWN, x -> x.step(0, part, 1, 0));
        }
        for (int part : beyond(2)) {
            refuse("build(1, " + part + ", 5)", UNKNOWN, x -> x.build(1, part, 5));
            refuse("step(1, " + part + ", -1, 1)", UNKNOWN, x -> x.step(1, part, -1, 1));
        }
        run(RefusalTests::small);
        for (int part : beyond(3)) {
            refuse("build(9, " + part + ", 5)", UNKNOWN, x -> x.build(9, part, 5));
            refuse("step(9, " + part + ", 1, 0)", UNKNOWN, x -> x.step(9, part, 1, 0));
        }
        run(RefusalTests::full);
        says("UNKNOWN (one twice)");
        for (int p = 0; p <= 1; p++) {
            int q = p;
            refuse("pair(" + q + ", " + q + ", 0)", UNKNOWN, x -> x.pair(q, q, 0));
            refuse("pair(" + q + ", " + q + ", 1)", UNKNOWN, x -> x.pair(q, q, 1));
        }
        run(RefusalTests::small);
    }

    private static void outsides() {
        says("OUTSIDE (another number out of its bounds)");
        for (int n : beyond(9)) {
            refuse("feed(" + n + ", 0)", OUTSIDE, x -> x.feed(n, 0));
        }
        refuse("feed(0, -1)", OUTSIDE, x -> x.feed(0, -1L));
        for (int what : beyond(8)) {
            refuse("told(" + what + ")", OUTSIDE, x -> x.told(what));
        }
        for (int what : beyond(9)) {
            refuse("stair(1, " + what + ")", OUTSIDE, x -> x.stair(1, what));
        }
        for (int what : beyond(4)) {
            refuse("person(1, " + what + ")", OUTSIDE, x -> x.person(1, what));
        }
        for (int stride : NO_STRIDE) {
            refuse("fit(1, " + stride + ")", OUTSIDE, x -> x.fit(1, stride));
            refuse("reach(2, " + stride + ")", OUTSIDE, x -> x.reach(2, stride));
        }
        for (int n : NO_STEPS) {
            refuse("build(1, 1, " + n + ")", OUTSIDE, x -> x.build(1, 1, n));
        }
        for (int what : beyond(2)) {
            refuse("law(" + what + ")", OUTSIDE, x -> x.law(what));
            refuse("pair(0, 1, " + what + ")", OUTSIDE, x -> x.pair(0, 1, what));
            refuse("carried(0, 2, " + what + ")", OUTSIDE, x -> x.carried(0, 2, what));
            refuse("step(0, 0, 1, " + what + ")", OUTSIDE, x -> x.step(0, 0, 1, what));
        }
        for (int what : beyond(3)) {
            refuse("worst(" + what + ")", OUTSIDE, x -> x.worst(what));
        }
        for (int n : new int[] {MIN, -99, -1, 0, 100, 101, 199, MAX}) {
            refuse("drift(" + n + ")", OUTSIDE, x -> x.drift(n));
        }
        for (int v : new int[] {MIN, MIN + 1, -65536, -2, -1}) {
            refuse("seed(" + v + ")", OUTSIDE, x -> x.seed(v));
        }
        run(RefusalTests::small);
        says("OUTSIDE (by, what; steps)");
        for (int by : new int[] {MIN, -3, -2, 0, 2, 3, 719, MAX}) {
            refuse("step(0, 0, " + by + ", 0)", OUTSIDE, x -> x.step(0, 0, by, 0));
            refuse("step(0, 0, " + by + ", 1)", OUTSIDE, x -> x.step(0, 0, by, 1));
        }
        for (int what = 0; what <= 1; what++) {
            int w = what;
            refuse("step(1, 0, 1, " + w + ") of 720", OUTSIDE, x -> x.step(1, 0, 1, w));
            refuse("step(1, 1, -1, " + w + ") of 1", OUTSIDE, x -> x.step(1, 1, -1, w));
        }
        run(RefusalTests::small);
    }

    private static void notNow() {
        says("NOT: not as told (go)");
        for (int law = 0; law <= 1; law++) {
            int v = law;
            refuse("go(0, 0) up", NOT, x -> x.go(0, 0));
            refuse("go(0, 1) from where it does not begin", NOT, x -> x.go(0, 1));
            refuse("go(1, 1) up a leap", NOT, x -> x.go(1, 1));
            refuse("go(2, 0) from where it does not end", NOT, x -> x.go(2, 0));
            if (v == 0) {
                refuse("go(1, 0) down", NOT, x -> x.go(1, 0));
                refuse("go(2, 1) down a leap", NOT, x -> x.go(2, 1));
            }
            run(() -> stuck(v));
        }
        says("NOT: no PERSONS, no STAIRS");
        refuse("drift(1)", NOT, x -> x.drift(1));
        refuse("drift(99)", NOT, x -> x.drift(99));
        List<Refused> both = new ArrayList<>(REFUSED);
        run(FittingStrides::new);
        for (String text : new String[] {"places 2;", "places 2;person 0 5;", "places 2;stair open 0 1 5;"}) {
            REFUSED.addAll(both);
            run(() -> townOf(text));
        }
        says("NOT: it was not kept");
        refuse("goBack(0)", NOT, x -> x.goBack(0));
        refuse("goBack(1)", NOT, x -> x.goBack(1));
        List<Refused> unkept = new ArrayList<>(REFUSED);
        run(RefusalTests::full);
        REFUSED.addAll(unkept);
        run(FittingStrides::new);
        REFUSED.addAll(unkept);
        run(RefusalTests::faulty);
    }

    private static void fulls() {
        says("OUTSIDE, FULL (500)");
        for (int n = 1; n <= 8; n++) {
            int more = n;
            refuse("feed(" + more + ", -1) at 500", FULL, x -> x.feed(more, -1L));
        }
        run(RefusalTests::full);
        says("SEEN (20 at most): FULL (20)");
        refuse("see(0, 0, true) at 20", FULL, x -> x.see(0, 0, true));
        refuse("see(7, 7, false) at 20", FULL, x -> x.see(7, 7, false));
        run(RefusalTests::full);
        says("THE BOOK .. 40 at most: FULL (40)");
        refuse("write(0, 0) at 40", FULL, x -> x.write(0, 0));
        refuse("write(7, 9) at 40", FULL, x -> x.write(7, 9));
        run(RefusalTests::full);
    }

    private static void order() {
        says("REFUSALS, of several the first in this order: UNKNOWN, OUTSIDE");
        for (int what : beyond(9)) {
            refuse("stair(2, " + what + ")", UNKNOWN, x -> x.stair(2, what));
            refuse("person(2, " + what + ")", UNKNOWN, x -> x.person(2, what));
            refuse("pair(2, 0, " + what + ")", UNKNOWN, x -> x.pair(2, 0, what));
            refuse("pair(0, 2, " + what + ")", UNKNOWN, x -> x.pair(0, 2, what));
            refuse("pair(1, 1, " + what + ")", UNKNOWN, x -> x.pair(1, 1, what));
            refuse("carried(2, 0, " + what + ")", UNKNOWN, x -> x.carried(2, 0, what));
            refuse("carried(0, 3, " + what + ")", UNKNOWN, x -> x.carried(0, 3, what));
            refuse("step(2, 0, 1, " + what + ")", UNKNOWN, x -> x.step(2, 0, 1, what));
            refuse("step(0, 1, 1, " + what + ")", UNKNOWN, x -> x.step(0, 1, 1, what));
            refuse("step(0, -1, 0, " + what + ")", UNKNOWN, x -> x.step(0, -1, 0, what));
        }
        for (int stride : NO_STRIDE) {
            refuse("fit(2, " + stride + ")", UNKNOWN, x -> x.fit(2, stride));
            refuse("fit(-1, " + stride + ")", UNKNOWN, x -> x.fit(-1, stride));
            refuse("reach(3, " + stride + ")", UNKNOWN, x -> x.reach(3, stride));
            refuse("reach(-1, " + stride + ")", UNKNOWN, x -> x.reach(-1, stride));
        }
        for (int n : NO_STEPS) {
            refuse("build(2, 0, " + n + ")", UNKNOWN, x -> x.build(2, 0, n));
            refuse("build(0, 1, " + n + ")", UNKNOWN, x -> x.build(0, 1, n));
            refuse("build(1, 2, " + n + ")", UNKNOWN, x -> x.build(1, 2, n));
        }
        run(RefusalTests::small);
    }

    private static void orderOfOthers() {
        says("REFUSALS, of several the first in this order: UNKNOWN, .. NOT");
        refuse("go(0, 2)", UNKNOWN, x -> x.go(0, 2));
        refuse("go(2, 1)", UNKNOWN, x -> x.go(2, 1));
        run(RefusalTests::small);
        says("REFUSALS, of several the first in this order: UNKNOWN, .. FULL");
        refuse("see(8, 0, true) at 20", UNKNOWN, x -> x.see(8, 0, true));
        refuse("see(0, -1, true) at 20", UNKNOWN, x -> x.see(0, -1, true));
        refuse("write(8, 0) at 40", UNKNOWN, x -> x.write(8, 0));
        refuse("write(0, 10) at 40", UNKNOWN, x -> x.write(0, 10));
        run(RefusalTests::full);
        says("REFUSALS, of several the first in this order: .. OUTSIDE, .. FULL");
        refuse("feed(0, 0) at 500", OUTSIDE, x -> x.feed(0, 0));
        refuse("feed(9, 0) at 500", OUTSIDE, x -> x.feed(9, 0));
        refuse("feed(MAX, 0) at 500", OUTSIDE, x -> x.feed(MAX, 0));
        run(RefusalTests::full);
        says("REFUSALS, of several the first in this order: .. OUTSIDE, NOT");
        refuse("drift(0)", OUTSIDE, x -> x.drift(0));
        refuse("drift(100)", OUTSIDE, x -> x.drift(100));
        run(RefusalTests::faulty);
        says("REFUSALS, of several the first in this order: UNKNOWN, OUTSIDE, without a town");
        refuse("stair(0, 9)", UNKNOWN, x -> x.stair(0, 9));
        refuse("person(0, 4)", UNKNOWN, x -> x.person(0, 4));
        refuse("pair(0, 1, 2)", UNKNOWN, x -> x.pair(0, 1, 2));
        refuse("carried(0, 0, 2)", UNKNOWN, x -> x.carried(0, 0, 2));
        refuse("step(0, 0, 0, 2)", UNKNOWN, x -> x.step(0, 0, 0, 2));
        refuse("build(0, 0, 0)", UNKNOWN, x -> x.build(0, 0, 0));
        refuse("reach(0, 0)", UNKNOWN, x -> x.reach(0, 0));
        refuse("fit(0, 0)", UNKNOWN, x -> x.fit(0, 0));
        run(FittingStrides::new);
    }

    /** A text with a fault is refused, too; its own text and the byte of the fault alone are not as before. */
    private static void faultyTowns() {
        says("-10 less the number of its FAULT (all is as it was)");
        String[] texts = {"x", "places 9;", "places 1;places 1;", "places 2;stair open 0 0 5;",
            "places 8;stair leap 0 1 9;person 7 24;person 7 24;person 7 24;x"};
        int[] kinds = {1, 2, 3, 4, 1};
        for (int i = 0; i < texts.length; i++) {
            FittingStrides x = untold();
            feed(x, texts[i]);
            due("town() of " + texts[i], x.town(), -10 - kinds[i]);
            List<Integer> got = all(x);
            List<Integer> want = all(untold());
            due("how much there is to see", got.size(), want.size());
            for (int k = 1; k < Math.min(got.size(), want.size()); k++) {
                due("number " + k + " of what is to see behind " + texts[i], got.get(k), want.get(k));
            }
        }
    }

    private static void askingChangesNothing() {
        says("calls that only ask leave all as it was");
        for (int what = 0; what <= 1; what++) {
            int w = what;
            refuse("carried(0, 2, " + w + ")", small().carried(0, 2, w), x -> x.carried(0, 2, w));
            refuse("pair(0, 1, " + w + ")", small().pair(0, 1, w), x -> x.pair(0, 1, w));
            refuse("step(0, 0, -1, " + w + ")", small().step(0, 0, -1, w), x -> x.step(0, 0, -1, w));
            refuse("step(0, 0, 1, " + w + ")", small().step(0, 0, 1, w), x -> x.step(0, 0, 1, w));
            refuse("worst(" + w + ")", small().worst(w), x -> x.worst(w));
        }
        refuse("cover()", small().cover(), FittingStrides::cover);
        refuse("ask()", small().ask(), FittingStrides::ask);
        refuse("judge()", small().judge(), FittingStrides::judge);
        refuse("fits()", small().fits(), FittingStrides::fits);
        refuse("best(0)", small().best(0), x -> x.best(0));
        refuse("guests(0)", small().guests(0), x -> x.guests(0));
        refuse("reach(0, 12)", small().reach(0, 12), x -> x.reach(0, 12));
        refuse("wish(3, 0)", small().wish(3, 0), x -> x.wish(3, 0));
        refuse("stair(0, 8)", small().stair(0, 8), x -> x.stair(0, 8));
        refuse("person(0, 3)", small().person(0, 3), x -> x.person(0, 3));
        refuse("fit(0, 4)", small().fit(0, 4), x -> x.fit(0, 4));
        run(RefusalTests::small);
    }

    public static void main(String[] args) {
        unknowns();
        outsides();
        notNow();
        fulls();
        order();
        orderOfOthers();
        faultyTowns();
        askingChangesNothing();
        end();
    }
}
