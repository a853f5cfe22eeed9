import java.util.ArrayList;
import java.util.List;

/** Each refused call in each scene: its answer, as which it counts, that it changes nothing else; what only asks changes nothing. */
public final class RefusalTest {
    private static final int LOW = Integer.MIN_VALUE, HIGH = Integer.MAX_VALUE;
    private static final int AS_BAD = 0, AS_NO = 1, AS_FULL = 2, AS_NONE = -1;
    private static int wrong = 0;
    private static int looked = 0;

    interface Call {
        long on(LastMatches x);
    }

    interface Scene {
        LastMatches make();
    }

    record Named(String name, Call call, long answer) { }

    private static void look(boolean good, String what) {
        looked++;
        if (!good) {
            wrong++;
            System.out.println(what);
        }
    }

    // ---- the scenes

    private static void type(LastMatches x, String text) {
        for (int i = 0; i < text.length(); i++) {
            x.type(text.charAt(i));
        }
    }

    private static LastMatches fresh() {
        return new LastMatches();
    }

    /** Six matches, seven sticks, five stumps, 150 bytes, 8 that may be undone, both images. */
    private static LastMatches full() {
        LastMatches x = new LastMatches();
        x.clearing(0, 4);
        x.clearing(1, 1);
        x.clearing(3, 12);
        x.carry(3, 9);
        for (int i = 0; i < 6; i++) {
            x.match(i, 10 - i / 3, 9 - i);
        }
        for (int i = 0; i < 7; i++) {
            x.stick(i + 1, (1 << i) - 1);
        }
        x.image(0);
        for (int i = 0; i < 5; i++) {
            x.stump(9 - i);
        }
        x.ready();
        x.strike(false, false);
        x.image(1);
        x.strike(true, false);
        x.strike(false, false);
        for (int i = 0; i < 5; i++) {
            x.ready();
        }
        type(x, "wind 3;shelter 2;match 3 9 9;stick 4 0;stump 1;carry 0 1;" + " ".repeat(93));
        x.chance(3, 1);
        return x;
    }

    /** A fire by the second of three matches; image 1 alone; a text with a fault. */
    private static LastMatches burning() {
        LastMatches x = new LastMatches();
        x.match(0, 9, 5);
        x.match(4, 10, 7);
        x.match(2, 6, 3);
        x.stick(3, 0);
        x.stick(5, 1);
        x.stump(5);
        x.ready();
        x.image(1);
        x.strike(false, false);
        x.strike(true, true);
        type(x, "end 3; match 1 2 3; wind wind;");
        x.candle(3);
        return x;
    }

    /** All matches are struck and no minute is left; image 0 alone; an item of the text is refused. */
    private static LastMatches spent() {
        LastMatches x = new LastMatches();
        x.clearing(3, 3);
        x.match(1, 8, 2);
        x.match(5, 9, 4);
        x.ready();
        x.ready();
        x.strike(true, false);
        x.ready();
        x.image(0);
        x.strike(false, false);
        type(x, "end 3; stump 19;");
        x.best();
        x.undo();
        x.rule(0);
        x.strike(false, false);
        return x;
    }

    /** One match is left, nothing may be undone. */
    private static LastMatches lastOne() {
        LastMatches x = new LastMatches();
        x.match(3, 7, 7);
        x.chance(0, 0);
        return x;
    }

    private static final Scene[] SCENES =
        {RefusalTest::fresh, RefusalTest::full, RefusalTest::burning, RefusalTest::spent, RefusalTest::lastOne};
    private static final String[] NAMES = {"a new object", "a full one", "a fire", "all spent", "the last one"};

    // ---- all that an object holds, as its answers tell it

    private static void goBack(LastMatches x, StringBuilder all) {
        do {
            all.append(x.digest()).append(' ');
        } while (x.undo() == 1);
    }

    private static String status(LastMatches x) {
        return x.status(0) + " " + x.status(1) + " " + x.status(2);
    }

    private static String allOf(LastMatches x, boolean withFraction) {
        StringBuilder all = new StringBuilder();
        if (withFraction) {
            all.append(x.part(0)).append('/').append(x.part(1)).append(' ');
        }
        x.rule(0);
        goBack(x, all);
        all.append(x.read()).append(' ');
        goBack(x, all);
        for (int i = 0; i < 2; i++) {
            all.append(x.from(i)).append(' ');
            goBack(x, all);
        }
        all.append(x.clear());
        return all.toString();
    }

    private static void refused(int scene, Named refusal, int as) {
        LastMatches x = SCENES[scene].make();
        LastMatches same = SCENES[scene].make();
        int[] due = {x.status(0), x.status(1), x.status(2)};
        if (as != AS_NONE) {
            due[as]++;
        }
        String where = refusal.name + ", " + NAMES[scene] + ": ";
        long answer = refusal.call.on(x);
        look(answer == refusal.answer, where + "answered " + answer + ", due is " + refusal.answer);
        String status = due[0] + " " + due[1] + " " + due[2];
        look(status(x).equals(status), where + "STATUS is " + status(x) + ", due is " + status);
        look(allOf(x, true).equals(allOf(same, true)), where + "more than STATUS is changed");
    }

    // ---- what is refused as BAD, everywhere and ahead of all else

    private static final List<Named> BADS = new ArrayList<>();

    private static void bad(String name, Call call) {
        BADS.add(new Named(name, call, -2));
    }

    private static void badTen(String name, Call call) {
        BADS.add(new Named(name, call, -10));
    }

    private static void badOnes() {
        for (int n : new int[] {-1, 4, LOW, HIGH}) {
            bad("clearing(" + n + ", 0)", x -> x.clearing(n, 0));
        }
        int[] most = {9, 9, 3, 12};
        for (int what = 0; what < 4; what++) {
            int w = what;
            for (int n : new int[] {-1, most[what] + 1, LOW, HIGH}) {
                bad("clearing(" + w + ", " + n + ")", x -> x.clearing(w, n));
            }
        }
        for (int n : new int[] {-1, 6, LOW, HIGH}) {
            bad("carry(" + n + ", 5)", x -> x.carry(n, 5));
            bad("match(" + n + ", 5, 5)", x -> x.match(n, 5, 5));
            bad("rule(" + n + ")", x -> x.rule(n));
            bad("waits(" + n + ", 5, 5)", x -> x.waits(n, 5, 5));
            for (int what : new int[] {0, 1, 2, 3}) {
                bad("of(" + n + ", " + what + ")", x -> x.of(n, what));
                bad("chance(" + n + ", " + what + ")", x -> x.chance(n, what));
            }
            badTen("winds(" + n + ", 0, 1, 1)", x -> x.winds(n, 0, 1, 1));
        }
        for (int n : new int[] {-1, 11, LOW, HIGH}) {
            bad("carry(0, " + n + ")", x -> x.carry(0, n));
            bad("carry(5, " + n + ")", x -> x.carry(5, n));
            bad("match(0, " + n + ", 5)", x -> x.match(0, n, 5));
            bad("waits(0, " + n + ", 5)", x -> x.waits(0, n, 5));
            bad("waits(0, 5, " + n + ")", x -> x.waits(0, 5, n));
        }
        for (int n : new int[] {0, -1, 10, LOW, HIGH}) {
            bad("match(0, 5, " + n + ")", x -> x.match(0, 5, n));
            bad("stick(" + n + ", 0)", x -> x.stick(n, 0));
            badTen("order(" + n + ", -1)", x -> x.order(n, -1));
            badTen("feed(5, " + n + ", 5, 5, -1)", x -> x.feed(5, n, 5, 5, -1));
        }
        badWhats();
        badBits();
        badFeeds();
        badTries();
    }

    private static void badWhats() {
        for (int n : new int[] {-1, 2, LOW, HIGH}) {
            bad("clean(" + n + ")", x -> x.clean(n));
            bad("chance(0, " + n + ")", x -> x.chance(0, n));
            bad("part(" + n + ")", x -> x.part(n));
            bad("image(" + n + ")", x -> x.image(n));
            bad("from(" + n + ")", x -> x.from(n));
            badTen("stumps(" + n + ")", x -> x.stumps(n));
        }
        for (int n : new int[] {-1, 4, LOW, HIGH}) {
            bad("of(0, " + n + ")", x -> x.of(0, n));
        }
        for (int n : new int[] {-1, 9, LOW, HIGH}) {
            bad("count(" + n + ")", x -> x.count(n));
        }
        for (int n : new int[] {-1, 3, LOW, HIGH}) {
            BADS.add(new Named("status(" + n + ")", x -> x.status(n), -1));
        }
        for (int n : new int[] {-1, 128, LOW, HIGH}) {
            bad("type(" + n + ")", x -> x.type(n));
        }
        for (int n : new int[] {-1, 19, LOW, HIGH}) {
            bad("stump(" + n + ")", x -> x.stump(n));
        }
        for (int n : new int[] {0, -1, 7, LOW, HIGH}) {
            bad("candle(" + n + ")", x -> x.candle(n));
        }
        for (int n : new int[] {-1, -2, LOW}) {
            badTen("whose(" + n + ")", x -> x.whose(n));
        }
        bad("strike(false, true)", x -> x.strike(false, true));
    }

    private static void badBits() {
        for (int n : new int[] {-1, 128, 255, LOW, HIGH}) {
            bad("stick(1, " + n + ")", x -> x.stick(1, n));
            badTen("laid(" + n + ", -1)", x -> x.laid(n, -1));
        }
        for (int n : new int[] {-2, 7, LOW, HIGH}) {
            badTen("laid(0, " + n + ")", x -> x.laid(0, n));
        }
        for (int n : new int[] {-2, -3, LOW}) {
            badTen("order(5, " + n + ")", x -> x.order(5, n));
            badTen("feed(5, 5, 5, 5, " + n + ")", x -> x.feed(5, 5, 5, 5, n));
        }
    }

    private static void badFeeds() {
        for (int n : new int[] {-1, 100, LOW, HIGH}) {
            badTen("feed(" + n + ", 5, 5, 5, -1)", x -> x.feed(n, 5, 5, 5, -1));
            badTen("feed(5, 5, " + n + ", 5, -1)", x -> x.feed(5, 5, n, 5, -1));
            badTen("feed(5, 5, 5, " + n + ", -1)", x -> x.feed(5, 5, 5, n, -1));
        }
        badTen("feed(5, 5, 0, 5, -1)", x -> x.feed(5, 5, 0, 5, -1));
    }

    private static void badTries() {
        for (int n : new int[] {-1, 13, LOW, HIGH}) {
            badTen("winds(0, " + n + ", 1, 1)", x -> x.winds(0, n, 1, 1));
        }
        for (int n : new int[] {-1, 19, LOW, HIGH}) {
            badTen("winds(0, 0, " + n + ", 0)", x -> x.winds(0, 0, n, 0));
        }
        for (int n : new int[] {-1, 6, LOW, HIGH}) {
            badTen("winds(0, 0, 5, " + n + ")", x -> x.winds(0, 0, 5, n));
        }
        badTen("winds(0, 0, 0, 1)", x -> x.winds(0, 0, 0, 1));
        for (int n : new int[] {-1, 61, LOW, HIGH}) {
            bad("evenings(" + n + ", 5)", x -> x.evenings(n, 5));
        }
        for (int n : new int[] {-1, 1000000, LOW, HIGH}) {
            bad("evenings(5, " + n + ")", x -> x.evenings(5, n));
        }
    }

    // ---- what is refused in one scene alone

    private static void no(int scene, String name, Call call) {
        refused(scene, new Named(name, call, -3), AS_NO);
    }

    private static void full(String name, Call call) {
        refused(1, new Named(name, call, -4), AS_FULL);
    }

    private static void none(int scene, String name, Call call, long answer) {
        refused(scene, new Named(name, call, answer), AS_NONE);
    }

    private static void noOnes() {
        for (int scene : new int[] {0, 2, 3}) {
            no(scene, "strike(false, false)", x -> x.strike(false, false));
            no(scene, "strike(true, false)", x -> x.strike(true, false));
            no(scene, "strike(true, true)", x -> x.strike(true, true));
        }
        no(2, "ready()", LastMatches::ready);
        no(3, "ready()", LastMatches::ready);
        no(0, "undo()", LastMatches::undo);
        no(4, "undo()", LastMatches::undo);
        for (int scene : new int[] {0, 3}) {
            no(scene, "split()", LastMatches::split);
            no(scene, "both()", LastMatches::both);
            no(scene, "candle(1)", x -> x.candle(1));
            no(scene, "candle(6)", x -> x.candle(6));
        }
        no(4, "both()", LastMatches::both);
        no(2, "both()", LastMatches::both);
        no(0, "from(0)", x -> x.from(0));
        no(0, "from(1)", x -> x.from(1));
        no(2, "from(0)", x -> x.from(0));
        no(3, "from(1)", x -> x.from(1));
    }

    private static void fullOnes() {
        full("match(0, 0, 1)", x -> x.match(0, 0, 1));
        full("match(5, 10, 9)", x -> x.match(5, 10, 9));
        full("stick(1, 0)", x -> x.stick(1, 0));
        full("stick(9, 127)", x -> x.stick(9, 127));
        full("stump(0)", x -> x.stump(0));
        full("stump(18)", x -> x.stump(18));
        full("type(0)", x -> x.type(0));
        full("type(127)", x -> x.type(127));
    }

    /** BAD by what there is: of a number that another scene would take. */
    private static void badHere() {
        refused(0, new Named("of(0, 0)", x -> x.of(0, 0), -2), AS_BAD);
        refused(0, new Named("chance(0, 0)", x -> x.chance(0, 0), -2), AS_BAD);
        refused(0, new Named("winds(0, 0, 0, 0)", x -> x.winds(0, 0, 0, 0), -10), AS_BAD);
        refused(2, new Named("of(3, 0)", x -> x.of(3, 0), -2), AS_BAD);
        refused(2, new Named("chance(3, 1)", x -> x.chance(3, 1), -2), AS_BAD);
        refused(2, new Named("winds(3, 0, 0, 0)", x -> x.winds(3, 0, 0, 0), -10), AS_BAD);
        refused(0, new Named("stick(1, 1)", x -> x.stick(1, 1), -2), AS_BAD);
        refused(2, new Named("stick(1, 4)", x -> x.stick(1, 4), -2), AS_BAD);
        refused(0, new Named("laid(1, -1)", x -> x.laid(1, -1), -10), AS_BAD);
        refused(0, new Named("laid(0, 0)", x -> x.laid(0, 0), -10), AS_BAD);
        refused(2, new Named("laid(4, -1)", x -> x.laid(4, -1), -10), AS_BAD);
        refused(2, new Named("laid(3, 2)", x -> x.laid(3, 2), -10), AS_BAD);
        refused(3, new Named("clearing(3, 2)", x -> x.clearing(3, 2), -2), AS_BAD);
        refused(2, new Named("clearing(3, 0)", x -> x.clearing(3, 0), -2), AS_BAD);
    }

    /** Told otherwise than as BAD, NO, FULL: counted as none of them, changing nothing. */
    private static void countedAsNone() {
        none(2, "read() with a fault", LastMatches::read, -10 - 25);
        none(3, "read() with a refused item", LastMatches::read, -1001);
        none(1, "order(9, 7)", x -> x.order(9, 7), -5);
        none(0, "order(9, 0)", x -> x.order(9, 0), -5);
        none(0, "order(9, HIGH)", x -> x.order(9, HIGH), -5);
        none(1, "feed(1, 1, 1, 2, 1)", x -> x.feed(1, 1, 1, 2, 1), -5);
        none(0, "feed(1, 1, 1, 1, HIGH)", x -> x.feed(1, 1, 1, 1, HIGH), -5);
        for (int scene = 0; scene < SCENES.length; scene++) {
            asks(scene, new Named("whose(6)", x -> x.whose(6), -5), false);
            asks(scene, new Named("whose(HIGH)", x -> x.whose(HIGH), -5), false);
        }
    }

    // ---- what only asks

    /** What it answers is another test's; here it counts nowhere, and at most THE FRACTION is another then. */
    private static void asks(int scene, Named question, boolean fractionStays) {
        LastMatches x = SCENES[scene].make();
        LastMatches same = SCENES[scene].make();
        String where = question.name + ", " + NAMES[scene] + ": ";
        String status = status(x);
        long answer = question.call.on(x);
        look(question.answer == 0 || answer == question.answer, where + "answered " + answer + ", due is " + question.answer);
        if (answer != -2 && answer != -3 && answer != -10) {
            look(status(x).equals(status), where + "STATUS is changed");
        }
        look(allOf(x, fractionStays).equals(allOf(same, fractionStays)), where + "something is changed");
    }

    private static void question(String name, Call call, boolean fractionStays) {
        for (int scene = 0; scene < SCENES.length; scene++) {
            asks(scene, new Named(name, call, 0), fractionStays);
        }
    }

    private static void questions() {
        for (int m = 0; m < 6; m++) {
            int match = m;
            for (int what = 0; what < 4; what++) {
                int w = what;
                question("of(" + m + ", " + w + ")", x -> x.of(match, w), true);
            }
            question("chance(" + m + ", 0)", x -> x.chance(match, 0), false);
            question("chance(" + m + ", 1)", x -> x.chance(match, 1), false);
            question("rule(" + m + ")", x -> x.rule(match), false);
            question("candle(" + (m + 1) + ")", x -> x.candle(match + 1), false);
            question("whose(" + m + ")", x -> x.whose(match), false);
            question("winds(" + m + ", 0, 18, 9)", x -> x.winds(match, 0, 18, 9), true);
        }
        question("best()", LastMatches::best, false);
        question("bestRule()", LastMatches::bestRule, true);
        question("split()", LastMatches::split, true);
        question("both()", LastMatches::both, true);
        question("waits(5, 10, 10)", x -> x.waits(5, 10, 10), true);
        question("laid(1, -1)", x -> x.laid(1, -1), true);
        question("laid(3, 1)", x -> x.laid(3, 1), true);
        question("order(9, -1)", x -> x.order(9, -1), true);
        question("order(9, 0)", x -> x.order(9, 0), true);
        question("feed(9, 1, 3, 9, -1)", x -> x.feed(9, 1, 3, 9, -1), true);
        question("stumps(0)", x -> x.stumps(0), true);
        question("stumps(1)", x -> x.stumps(1), true);
        question("evenings(60, 999999)", x -> x.evenings(60, 999999), true);
        question("part(0)", x -> x.part(0), true);
        question("part(1)", x -> x.part(1), true);
        for (int what = 0; what <= 8; what++) {
            int w = what;
            question("count(" + w + ")", x -> x.count(w), true);
            if (what < 3) {
                question("status(" + w + ")", x -> x.status(w), true);
            }
        }
        question("digest()", LastMatches::digest, true);
    }

    // ---- that the look sees a change where there is one

    private static void changes(int scene, String name, Call call) {
        LastMatches x = SCENES[scene].make();
        LastMatches same = SCENES[scene].make();
        String status = status(x);
        call.on(x);
        look(status(x).equals(status), name + ", " + NAMES[scene] + ": is counted as refused");
        look(!allOf(x, true).equals(allOf(same, true)), name + ", " + NAMES[scene] + ": changes nothing");
    }

    private static void changed() {
        for (int scene : new int[] {0, 2, 4}) {
            for (int what = 0; what < 4; what++) {
                int w = what;
                changes(scene, "clearing(" + w + ", 3)", x -> x.clearing(w, 3));
            }
            changes(scene, "carry(5, 0)", x -> x.carry(5, 0));
            changes(scene, "match(0, 0, 1)", x -> x.match(0, 0, 1));
            changes(scene, "stick(1, 0)", x -> x.stick(1, 0));
            changes(scene, "stump(0)", x -> x.stump(0));
            changes(scene, "type(0)", x -> x.type(0));
        }
        for (int scene = 1; scene < 4; scene++) {
            changes(scene, "clear()", LastMatches::clear);
            changes(scene, "undo()", LastMatches::undo);
        }
        changes(1, "clean(0)", x -> x.clean(0));
        changes(1, "clean(1)", x -> x.clean(1));
        changes(1, "read()", LastMatches::read);
        changes(1, "strike(false, false)", x -> x.strike(false, false));
        changes(1, "ready()", LastMatches::ready);
        changes(2, "image(0)", x -> x.image(0));
        changes(3, "image(1)", x -> x.image(1));
        changes(2, "from(1)", x -> x.from(1));
        changes(3, "from(0)", x -> x.from(0));
    }

    public static void main(String[] args) {
        badOnes();
        for (Named bad : BADS) {
            for (int scene = 0; scene < SCENES.length; scene++) {
                refused(scene, bad, AS_BAD);
            }
        }
        noOnes();
        fullOnes();
        badHere();
        countedAsNone();
        questions();
        changed();
        System.out.println(looked + " looks, " + wrong + " wrong");
        if (wrong != 0) {
            System.exit(1);
        }
    }
}
