import java.math.BigInteger;

/** Each sentence of the document that names an edge: its least and most, one beyond them, nothing told, full, cut, begun again. */
public final class EdgeTest {
    private static final int LOW = Integer.MIN_VALUE, HIGH = Integer.MAX_VALUE;
    private static int wrong = 0;
    private static int looked = 0;
    private static int sentences = 0;
    private static String sentence = "";

    private static void says(int promise, String words) {
        sentences++;
        sentence = "promise " + promise + ", '" + words + "': ";
    }

    private static void due(String call, long got, long want) {
        looked++;
        if (got != want) {
            wrong++;
            System.out.println(sentence + call + " answered " + got + ", due is " + want);
        }
    }

    private static void dueFraction(String call, LastMatches x, long above, long below) {
        due(call + ", above", x.part(0), above);
        due(call + ", below", x.part(1), below);
    }

    private static void dueStatus(LastMatches x, int bad, int no, int full) {
        due("status(0)", x.status(0), bad);
        due("status(1)", x.status(1), no);
        due("status(2)", x.status(2), full);
    }

    private static void type(LastMatches x, String text) {
        x.clear();
        for (int i = 0; i < text.length(); i++) {
            x.type(text.charAt(i));
        }
    }

    private static LastMatches told(String text) {
        LastMatches x = new LastMatches();
        type(x, text);
        if (x.read() < 0) {
            throw new IllegalStateException("the test's own text is refused: " + text);
        }
        x.clear();
        return x;
    }

    private static void dueRead(String text, int want) {
        LastMatches x = new LastMatches();
        type(x, text);
        due("read of '" + text + "'", x.read(), want);
    }

    /** One plain match with no wind and no wet: it lights in so many of 10 at any time. */
    private static LastMatches calm(int... heads) {
        LastMatches x = new LastMatches();
        x.clearing(0, 0);
        x.clearing(2, 0);
        for (int head : heads) {
            x.match(0, head, 5);
        }
        return x;
    }

    private static void getReady(LastMatches x, int times) {
        for (int i = 0; i < times; i++) {
            x.ready();
        }
    }

    public static void main(String[] args) {
        atFirst();
        ground();
        end();
        carries();
        matchesTold();
        lights();
        burning();
        tries();
        gettingReady();
        undoing();
        sticksTold();
        stumpsTold();
        cleaning();
        typing();
        readingTokens();
        readingFaults();
        readingNumbers();
        readingItems();
        readingRefused();
        readingAnew();
        ofMatch();
        chances();
        fractions();
        bestDeeds();
        rules();
        halves();
        pairs();
        candles();
        sun();
        turns();
        laidSticks();
        burntOut();
        orders();
        feeds();
        feedEdges();
        stumpRows();
        winds();
        evenings();
        imagesKept();
        statuses();
        counts();
        digests();
        System.out.println(sentences + " sentences, " + looked + " answers looked at, " + wrong + " wrong");
        if (wrong != 0) {
            System.exit(1);
        }
    }

    // ---- 1, 2, 3: a new object, the ground, what carries

    private static void atFirst() {
        says(1, "As told; no MATCHES, STICKS");
        LastMatches x = new LastMatches();
        int[] counts = {0, 0, 0, 0, 0, 0, 0, 0, 0};
        for (int what = 0; what < counts.length; what++) {
            due("count(" + what + ")", x.count(what), counts[what]);
        }
        says(1, "THE FRACTION is 0 by 1 at first");
        dueFraction("part", x, 0, 1);
        says(1, "STATUS: nothing was refused yet");
        dueStatus(x, 0, 0, 0);
        says(1, "nothing told yet: what the calls answer then");
        due("best", x.best(), 0);
        due("bestRule", x.bestRule(), 0);
        due("split", x.split(), -3);
        due("both", x.both(), -3);
        due("candle", x.candle(1), -3);
        due("whose", x.whose(0), -5);
        due("laid", x.laid(0, -1), 0);
        due("order", x.order(9, -1), 0);
        due("stumps(0)", x.stumps(0), 1);
        due("stumps(1)", x.stumps(1), -1);
        due("evenings", x.evenings(60, 0), 0);
        due("strike", x.strike(false, false), -3);
        due("undo", x.undo(), -3);
        due("from(0)", x.from(0), -3);
        due("from(1)", x.from(1), -3);
        due("read", x.read(), 0);
        due("clear", x.clear(), 0);
        due("clean(0)", x.clean(0), 0);
        due("clean(1)", x.clean(1), 0);
        dueStatus(x, 0, 7, 0);
    }

    private static void groundOf(int what, int first, int most) {
        LastMatches x = new LastMatches();
        due("to the least", x.clearing(what, 0), first);
        due("below the least", x.clearing(what, -1), -2);
        due("to the most", x.clearing(what, most), 0);
        due("above the most", x.clearing(what, most + 1), -2);
        due("the lowest int", x.clearing(what, LOW), -2);
        due("the highest int", x.clearing(what, HIGH), -2);
        due("is as it was", x.clearing(what, first), most);
        dueStatus(x, 4, 0, 0);
    }

    private static void ground() {
        says(2, "WIND (0 .. 9; 2 at first)");
        groundOf(0, 2, 9);
        says(2, "SHELTER (0 .. 9; 0 at first)");
        groundOf(1, 0, 9);
        says(2, "WET (0 .. 3; 1 at first)");
        groundOf(2, 1, 3);
        says(2, "END (0 .. 12; 6 at first)");
        groundOf(3, 6, 12);
        says(2, "WIND (0), SHELTER (1), WET (2), END (3), and no other");
        LastMatches x = new LastMatches();
        for (int what : new int[] {-1, 4, LOW, HIGH}) {
            due("clearing(" + what + ", 1)", x.clearing(what, 1), -2);
        }
        due("WIND", x.clearing(0, 0), 2);
        due("SHELTER", x.clearing(1, 0), 0);
        due("WET", x.clearing(2, 0), 1);
        due("END", x.clearing(3, 0), 6);
    }

    private static void end() {
        says(2, "END no less than MINUTE");
        LastMatches x = new LastMatches();
        getReady(x, 3);
        due("one less", x.clearing(3, 2), -2);
        due("as many", x.clearing(3, 3), 6);
        due("0", x.clearing(3, 0), -2);
        due("one more", x.clearing(3, 4), 3);
        due("BAD, BAD", x.status(0), 2);
        says(2, "END no less than MINUTE, at 12");
        x.clearing(3, 12);
        getReady(x, 9);
        due("MINUTE", x.count(3), 12);
        due("as many", x.clearing(3, 12), 12);
        due("one less", x.clearing(3, 11), -2);
        due("one more than may be", x.clearing(3, 13), -2);
        says(2, "END no less than MINUTE: that of now, not one that was undone");
        x.undo();
        due("one less", x.clearing(3, 11), 12);
        due("behind END", x.ready(), -3);
        says(2, "END no less than MINUTE: the other numbers have no such bound");
        due("WIND", x.clearing(0, 0), 2);
        due("SHELTER", x.clearing(1, 0), 0);
        due("WET", x.clearing(2, 0), 1);
    }

    private static void carries() {
        says(3, "CARRY of READY r (r 0 .. 5; r and 2 at first)");
        LastMatches x = new LastMatches();
        for (int r = 0; r <= 5; r++) {
            due("carry(" + r + ", 0)", x.carry(r, 0), r + 2);
        }
        for (int r : new int[] {-1, 6, LOW, HIGH}) {
            due("carry(" + r + ", 5)", x.carry(r, 5), -2);
        }
        says(3, "CARRY (0 .. 10)");
        for (int r = 0; r <= 5; r++) {
            due("to the most", x.carry(r, 10), 0);
            due("above it", x.carry(r, 11), -2);
            due("below the least", x.carry(r, -1), -2);
            due("is as it was", x.carry(r, 0), 10);
        }
        due("the lowest int", x.carry(0, LOW), -2);
        due("the highest int", x.carry(5, HIGH), -2);
        dueStatus(x, 18, 0, 0);
        says(3, "a MATCH that LIGHTS makes a FIRE in so many of 10: 0 never, 10 always");
        x = calm(10);
        x.carry(0, 0);
        x.chance(0, 1);
        dueFraction("never", x, 0, 1);
        x.carry(0, 10);
        x.chance(0, 1);
        dueFraction("always", x, 1, 1);
        says(3, "CARRY of READY: that of READY now alone");
        for (int r = 1; r <= 5; r++) {
            x.carry(r, 0);
        }
        x.chance(0, 1);
        dueFraction("READY 0", x, 1, 1);
        getReady(x, 5);
        x.carry(5, 7);
        x.chance(0, 1);
        dueFraction("READY 5", x, 7, 10);
    }

    // ---- 4: matches, how they light, how they burn

    private static void matchesTold() {
        says(4, "KINDS 0 .. 5");
        LastMatches x = new LastMatches();
        due("kind -1", x.match(-1, 5, 5), -2);
        due("kind 6", x.match(6, 5, 5), -2);
        due("the lowest int", x.match(LOW, 5, 5), -2);
        due("the highest int", x.match(HIGH, 5, 5), -2);
        due("kind 0", x.match(0, 5, 5), 0);
        due("kind 5", x.match(5, 5, 5), 1);
        due("of(0, 0)", x.of(0, 0), 0);
        due("of(1, 0)", x.of(1, 0), 5);
        says(4, "a HEAD (0 .. 10)");
        x = new LastMatches();
        due("head -1", x.match(0, -1, 5), -2);
        due("head 11", x.match(0, 11, 5), -2);
        due("head 0", x.match(0, 0, 5), 0);
        due("head 10", x.match(0, 10, 5), 1);
        due("of(0, 1)", x.of(0, 1), 0);
        due("of(1, 1)", x.of(1, 1), 10);
        says(4, "LONG (1 .. 9)");
        x = new LastMatches();
        due("long 0", x.match(0, 5, 0), -2);
        due("long 10", x.match(0, 5, 10), -2);
        due("long 1", x.match(0, 5, 1), 0);
        due("long 9", x.match(0, 5, 9), 1);
        due("of(0, 3)", x.of(0, 3), 1);
        due("of(1, 3)", x.of(1, 3), 9);
        says(4, "FULL: 6");
        x = new LastMatches();
        for (int m = 0; m <= 5; m++) {
            due("match", x.match(0, 5, 5), m);
        }
        due("the seventh", x.match(0, 5, 5), -4);
        dueStatus(x, 0, 0, 1);
        says(4, "the first of BAD, NO, FULL");
        due("kind", x.match(6, 5, 5), -2);
        due("head", x.match(0, 11, 5), -2);
        due("long", x.match(0, 5, 0), -2);
        dueStatus(x, 3, 0, 1);
        due("still six", x.count(0), 6);
        says(4, "FULL: 6, those that were struck, too");
        x.strike(false, false);
        due("one was struck", x.match(0, 5, 5), -4);
    }

    /** By HEAD 0 to 10 of each kind, with neither wind nor wet. */
    private static final int[][] LIGHTS = {
        {0, 1, 2, 3, 4, 5, 6, 7, 8, 9, 10}, {0, 0, 0, 1, 2, 3, 4, 5, 6, 7, 8}, {0, 1, 2, 3, 4, 5, 6, 7, 8, 9, 10},
        {0, 1, 2, 3, 4, 5, 6, 7, 8, 9, 10}, {0, 0, 1, 1, 2, 2, 3, 3, 4, 4, 5}, {0, 0, 2, 2, 3, 3, 4, 4, 5, 5, 6}};
    /** By LONG 1 to 9 of each kind. */
    private static final int[][] BURNS = {
        {1, 2, 3, 4, 5, 6, 7, 8, 9}, {1, 2, 3, 4, 5, 6, 7, 8, 9}, {1, 1, 2, 3, 4, 5, 6, 7, 8},
        {2, 2, 4, 6, 8, 10, 12, 14, 16}, {1, 1, 2, 2, 3, 3, 4, 4, 5}, {1, 1, 2, 2, 3, 3, 4, 4, 5}};
    private static final String[] KINDS = {
        "PLAIN: HEAD less GUST, less WET times t (0 at least); LONG", "DAMP: 2 less than PLAIN (0 at least); as PLAIN",
        "STORM: as PLAIN with no GUST; 1 less than PLAIN (1 at least)", "TARRED: as STORM; twice STORM",
        "HALF: half of PLAIN (cut); half of PLAIN, cut up", "SPLIT: 1 more than HALF, if that is more than 0; as HALF"};

    private static int lightsOf(int wind, int shelter, int wet, int minute, int kind, int head) {
        LastMatches x = new LastMatches();
        x.clearing(0, wind);
        x.clearing(1, shelter);
        x.clearing(2, wet);
        x.clearing(3, 12);
        x.match(kind, head, 5);
        getReady(x, minute);
        return x.of(0, 2);
    }

    private static void lights() {
        for (int kind = 0; kind <= 5; kind++) {
            says(14, KINDS[kind] + ", by HEAD");
            for (int head = 0; head <= 10; head++) {
                due("head " + head, lightsOf(0, 0, 0, 0, kind, head), LIGHTS[kind][head]);
            }
            // A gust of 1 and two minutes' wet of 3: a head of 10 does as one of 3 (of 4 without the gust).
            says(14, KINDS[kind] + ", by what comes off");
            boolean storm = kind == 2 || kind == 3;
            due("head 10", lightsOf(4, 3, 3, 2, kind, 10), LIGHTS[kind][storm ? 4 : 3]);
            due("head 8", lightsOf(4, 3, 3, 2, kind, 8), LIGHTS[kind][storm ? 2 : 1]);
            due("head 7", lightsOf(4, 3, 3, 2, kind, 7), LIGHTS[kind][storm ? 1 : 0]);
            due("head 6", lightsOf(4, 3, 3, 2, kind, 6), 0);
            due("head 0", lightsOf(9, 0, 3, 12, kind, 0), 0);
            due("in minute 12 by the most wet", lightsOf(0, 0, 3, 12, kind, 10), 0);
            due("in minute 12 by no wet", lightsOf(0, 0, 0, 12, kind, 10), LIGHTS[kind][10]);
        }
        says(14, "WIND less SHELTER (0 at least: the GUST)");
        due("9 less 9", lightsOf(9, 9, 0, 0, 0, 5), 5);
        due("0 less 9", lightsOf(0, 9, 0, 0, 0, 5), 5);
        due("8 less 9", lightsOf(8, 9, 0, 0, 0, 10), 10);
        due("9 less 8", lightsOf(9, 8, 0, 0, 0, 5), 4);
        due("9 less 0", lightsOf(9, 0, 0, 0, 0, 10), 1);
        due("9 less 0, of 9", lightsOf(9, 0, 0, 0, 0, 9), 0);
        due("9 less 0, of 8", lightsOf(9, 0, 0, 0, 0, 8), 0);
        due("no GUST", lightsOf(9, 0, 0, 0, 2, 8), 8);
        due("no GUST", lightsOf(9, 0, 0, 0, 3, 8), 8);
        says(14, "less WET times t (0 at least)");
        int[] wet = {10, 7, 4, 1, 0, 0};
        for (int t = 0; t < wet.length; t++) {
            due("minute " + t, lightsOf(0, 0, 3, t, 0, 10), wet[t]);
            due("minute " + t + " in a storm", lightsOf(9, 0, 3, t, 2, 10), wet[t]);
        }
    }

    private static void burning() {
        for (int kind = 0; kind <= 5; kind++) {
            says(14, KINDS[kind] + ", by LONG");
            for (int length = 1; length <= 9; length++) {
                LastMatches x = new LastMatches();
                x.match(kind, 5, length);
                due("long " + length, x.of(0, 3), BURNS[kind][length - 1]);
            }
        }
        says(14, "how long it BURNS, whatever the wind, the wet, the minute");
        LastMatches x = told("wind 9; wet 3; match 5 1 9; match 3 0 1;");
        getReady(x, 6);
        x.strike(false, false);
        due("split", x.of(0, 3), 5);
        due("tarred", x.of(1, 3), 2);
    }

    // ---- 11, 12, 13: tries

    private static void tries() {
        says(11, "the next MATCH (by numbers) is struck now");
        LastMatches x = calm(5, 5);
        due("the first", x.strike(false, false), 0);
        due("one was struck", x.count(1), 1);
        due("the second", x.strike(true, false), 1);
        due("no MINUTE went by", x.count(3), 0);
        due("no FIRE", x.count(8), 0);
        says(11, "NO: no MATCH is left");
        due("dark", x.strike(false, false), -3);
        due("lit", x.strike(true, false), -3);
        due("a fire", x.strike(true, true), -3);
        due("two were struck", x.count(1), 2);
        due("two may be undone", x.count(6), 2);
        dueStatus(x, 0, 3, 0);
        says(11, "one told later is left");
        due("match", x.match(0, 5, 5), 2);
        due("strike", x.strike(true, true), 2);
        says(11, "NO: a FIRE");
        x.match(0, 5, 5);
        due("dark", x.strike(false, false), -3);
        due("lit", x.strike(true, false), -3);
        due("a fire", x.strike(true, true), -3);
        due("FIRE", x.count(8), 1);
        due("three were struck", x.count(1), 3);
        says(11, "BAD: a FIRE by what did not light, ahead of NO");
        due("with a fire", x.strike(false, true), -2);
        due("no match", new LastMatches().strike(false, true), -2);
        x = calm(5);
        due("with a match", x.strike(false, true), -2);
        due("none was struck", x.count(1), 0);
        due("none may be undone", x.count(6), 0);
        dueStatus(x, 1, 0, 0);
        says(11, "it is told whether it LIT: its chance hinders nothing");
        x = calm(0);
        due("a head of 0", x.strike(true, true), 0);
        due("FIRE", x.count(8), 1);
    }

    private static void gettingReady() {
        says(12, "READY is 1 more (5 at most), a MINUTE goes by");
        LastMatches x = new LastMatches();
        x.clearing(3, 12);
        for (int i = 1; i <= 12; i++) {
            due("ready", x.ready(), i < 5 ? i : 5);
            due("READY", x.count(2), i < 5 ? i : 5);
            due("MINUTE", x.count(3), i);
        }
        says(12, "NO: not behind END");
        due("at END 12", x.ready(), -3);
        due("MINUTE", x.count(3), 12);
        x = new LastMatches();
        x.clearing(3, 0);
        due("at END 0", x.ready(), -3);
        x.clearing(3, 1);
        due("ahead of END 1", x.ready(), 1);
        due("at END 1", x.ready(), -3);
        due("READY", x.count(2), 1);
        due("one may be undone", x.count(6), 1);
        dueStatus(x, 0, 2, 0);
        says(12, "NO: not with a FIRE");
        x = calm(5);
        x.strike(true, true);
        due("with a fire", x.ready(), -3);
        due("READY", x.count(2), 0);
        due("MINUTE", x.count(3), 0);
        x.undo();
        due("without it", x.ready(), 1);
        says(12, "GET READY with no MATCH");
        due("ready", new LastMatches().ready(), 1);
    }

    private static void undoing() {
        says(13, "NO: none may be");
        LastMatches x = new LastMatches();
        due("nothing was done", x.undo(), -3);
        x.ready();
        due("one", x.undo(), 1);
        due("none again", x.undo(), -3);
        dueStatus(x, 0, 2, 0);
        says(13, "8 at most: 8 are all undone");
        x.clearing(3, 12);
        getReady(x, 8);
        due("may be undone", x.count(6), 8);
        for (int minute = 7; minute >= 0; minute--) {
            due("undo", x.undo(), 1);
            due("MINUTE", x.count(3), minute);
            due("READY", x.count(2), Math.min(5, minute));
        }
        due("none", x.undo(), -3);
        says(13, "8 at most: of 9 the first can not be undone");
        getReady(x, 9);
        due("may be undone", x.count(6), 8);
        for (int i = 8; i > 0; i--) {
            due("may be undone", x.count(6), i);
            due("undo", x.undo(), 1);
        }
        due("none", x.undo(), -3);
        due("MINUTE", x.count(3), 1);
        due("READY", x.count(2), 1);
        says(13, "8 at most: room again behind an undo");
        getReady(x, 8);
        x.undo();
        due("may be undone", x.count(6), 7);
        x.ready();
        due("may be undone", x.count(6), 8);
        says(13, "READY, MINUTE, which MATCH is next, the FIRE as ahead of the last TRY, GETTING READY");
        x = calm(5, 5);
        x.ready();
        x.strike(true, false);
        x.strike(true, true);
        due("the fire", x.undo(), 1);
        due("FIRE", x.count(8), 0);
        due("one was struck", x.count(1), 1);
        due("READY", x.count(2), 1);
        due("the first match", x.undo(), 1);
        due("none was struck", x.count(1), 0);
        due("MINUTE", x.count(3), 1);
        due("the ready", x.undo(), 1);
        due("READY", x.count(2), 0);
        due("MINUTE", x.count(3), 0);
        says(13, "UNDO: nothing but these goes back");
        x.ready();
        x.clearing(0, 7);
        x.carry(0, 1);
        x.match(0, 9, 9);
        x.stick(4, 0);
        x.stump(3);
        x.undo();
        due("WIND", x.clearing(0, 7), 7);
        due("CARRY", x.carry(0, 1), 1);
        due("MATCHES", x.count(0), 3);
        due("STICKS", x.count(4), 1);
        due("STUMPS", x.count(5), 1);
        says(13, "a refused TRY, GETTING READY is none");
        x = new LastMatches();
        x.clearing(3, 0);
        x.strike(true, true);
        x.strike(false, true);
        x.ready();
        due("none", x.undo(), -3);
    }

    // ---- 5, 6, 7: sticks, stumps

    private static void sticksTold() {
        says(5, "THICK (1 .. 9)");
        LastMatches x = new LastMatches();
        due("0", x.stick(0, 0), -2);
        due("10", x.stick(10, 0), -2);
        due("-1", x.stick(-1, 0), -2);
        due("1", x.stick(1, 0), 0);
        due("9", x.stick(9, 0), 1);
        says(5, "BENEATH (bits of STICKS told ahead of it)");
        due("both", x.stick(2, 3), 2);
        due("itself", x.stick(2, 8), -2);
        due("one behind", x.stick(2, 16), -2);
        due("ones ahead and itself", x.stick(2, 15), -2);
        due("all ahead", x.stick(2, 7), 3);
        due("-1", x.stick(2, -1), -2);
        due("the lowest int", x.stick(2, LOW), -2);
        due("the highest int", x.stick(2, HIGH), -2);
        says(5, "BENEATH of the first: none");
        due("1", new LastMatches().stick(2, 1), -2);
        due("0", new LastMatches().stick(2, 0), 0);
        says(5, "FULL: 7");
        for (int s = 4; s <= 6; s++) {
            due("stick", x.stick(9, (1 << s) - 1), s);
        }
        due("the eighth", x.stick(1, 0), -4);
        due("the eighth, on all", x.stick(1, 127), -4);
        due("seven", x.count(4), 7);
        dueStatus(x, 9, 0, 2);
        says(5, "the first of BAD, NO, FULL");
        due("thick", x.stick(0, 0), -2);
        due("beneath", x.stick(1, 128), -2);
        dueStatus(x, 11, 0, 2);
    }

    private static void stumpsTold() {
        says(6, "0 .. 18 each");
        LastMatches x = new LastMatches();
        due("-1", x.stump(-1), -2);
        due("19", x.stump(19), -2);
        due("the lowest int", x.stump(LOW), -2);
        due("the highest int", x.stump(HIGH), -2);
        due("0", x.stump(0), 1);
        due("18", x.stump(18), 2);
        says(6, "FULL: 5");
        for (int many = 3; many <= 5; many++) {
            due("stump", x.stump(9), many);
        }
        due("the sixth", x.stump(9), -4);
        due("five", x.count(5), 5);
        dueStatus(x, 4, 0, 1);
        says(6, "the first of BAD, NO, FULL");
        due("19", x.stump(19), -2);
        dueStatus(x, 5, 0, 1);
    }

    private static void cleaning() {
        says(7, "No STICKS (0), STUMPS (1), and no other");
        LastMatches x = told("stick 1 0; stick 1 1; stump 1; stump 2; stump 3;");
        due("-1", x.clean(-1), -2);
        due("2", x.clean(2), -2);
        due("STICKS", x.count(4), 2);
        due("STUMPS", x.count(5), 3);
        says(7, "how many there were: the others stay");
        due("sticks", x.clean(0), 2);
        due("STUMPS", x.count(5), 3);
        due("stumps", x.clean(1), 3);
        due("no STICKS", x.count(4), 0);
        due("no STUMPS", x.count(5), 0);
        says(7, "how many there were: none");
        due("no sticks", x.clean(0), 0);
        due("no stumps", x.clean(1), 0);
        dueStatus(x, 2, 0, 0);
        says(7, "how many there were: all, then there is room for as many again");
        for (int i = 0; i < 7; i++) {
            x.stick(1, 0);
            x.stump(1);
        }
        due("seven", x.clean(0), 7);
        due("five", x.clean(1), 5);
        due("the first", x.stick(1, 0), 0);
        due("the first", x.stump(1), 1);
        due("beneath the second", x.stick(1, 1), 1);
    }

    // ---- 8, 9: the text

    private static void typing() {
        says(8, "A byte (0 .. 127)");
        LastMatches x = new LastMatches();
        due("-1", x.type(-1), -2);
        due("128", x.type(128), -2);
        due("the lowest int", x.type(LOW), -2);
        due("the highest int", x.type(HIGH), -2);
        due("0", x.type(0), 1);
        due("127", x.type(127), 2);
        says(8, "FULL: 150 bytes");
        for (int many = 3; many <= 150; many++) {
            due("type", x.type(32), many);
        }
        due("the 151st", x.type(32), -4);
        due("bytes", x.count(7), 150);
        dueStatus(x, 4, 0, 1);
        says(8, "the first of BAD, NO, FULL");
        due("128", x.type(128), -2);
        dueStatus(x, 5, 0, 1);
        says(9, "THE TEXT is empty: how many it had");
        due("all", x.clear(), 150);
        due("none", x.clear(), 0);
        due("the first again", x.type(59), 1);
        due("one", x.clear(), 1);
        dueStatus(x, 5, 0, 1);
    }

    // ---- 10: read

    private static void readingTokens() {
        says(10, "an empty one: none");
        dueRead("", 0);
        says(10, "blanks (32) between");
        dueRead("wind7;", 1);
        dueRead("wind 7;", 1);
        dueRead("   wind   7   ;   ", 1);
        dueRead("match 0 5 5;match 0 5 5;", 2);
        dueRead("match0 5 5 ; match0 5 5 ;", 2);
        dueRead("stick1 0;", 1);
        dueRead("    ", 0);
        says(10, "THE TEXT (150 bytes at most)");
        dueRead("wet0;".repeat(30), 30);
        dueRead("end 0;".repeat(25), 25);
        dueRead("end 0;".repeat(24) + "end 0 ", -160);
        dueRead("end 0;".repeat(24) + "end 00", -160);
        dueRead(" ".repeat(149) + ";", -159);
        dueRead(" ".repeat(143) + "wind 0;", 1);
        dueRead("wet0;".repeat(29) + "wet4;", -1029);
        says(10, "a byte that begins none");
        for (int c = 0; c <= 127; c++) {
            LastMatches x = new LastMatches();
            x.type(c);
            due("byte " + c + " alone", x.read(), c == 32 ? 0 : -10);
            String ahead = "wind 7";
            type(x, ahead);
            x.type(c);
            x.type(';');
            int want = -16;
            if (c == ';') {
                want = -17;
            } else if (c == 32) {
                want = 1;
            } else if (c >= '0' && c <= '9') {
                want = -1000;
            }
            due("byte " + c + " behind '" + ahead + "'", x.read(), want);
        }
        says(10, "words of letters a .. z");
        dueRead("wind7;wind7;a", -22);
        dueRead("wind7;wind7;z", -22);
        dueRead("Wind 7;", -10);
        dueRead("wInd 7;", -10);
        dueRead("winD 7;", -10);
        dueRead("wind`7;", -14);
        dueRead("wind{7;", -14);
        says(10, "a word that is none");
        String[] none = {"win", "winds", "awind", "windd", "carr", "wet0wet", "shelte", "shelters", "en", "ends", "matc",
            "matches", "stic", "sticks", "stum", "stumps", "windshelter", "xind", "wxnd", "wixd", "winx", "carrz", "windz", "winda", "zwind"};
        for (String word : none) {
            int at = word.equals("wet0wet") ? 4 : 0;
            dueRead(word + " 1 1 1;", -10 - at);
            dueRead(" " + word + " 1 1 1;", -11 - at);
        }
    }

    /** What is due for each beginning of a text: a fault's place, or how many items. */
    private static void beginnings(String text, int... due) {
        for (int length = 0; length <= text.length(); length++) {
            dueRead(text.substring(0, length), due[length]);
        }
    }

    private static void readingFaults() {
        says(10, "the TEXT's length, if it ends too early");
        beginnings("wind 7;carry 5 10 ;", 0, -10, -10, -10, -14, -15, -16, 1, -17, -17, -17, -17, -22, -23, -24, -25, -26,
            -27, -28, 2);
        beginnings(" match 0 9 5; stump8;", 0, 0, -11, -11, -11, -11, -16, -17, -18, -19, -20, -21, -22, 1, 1, -24, -24, -24,
            -24, -29, -30, 2);
        dueRead("stick 1", -17);
        dueRead("stick 1 0", -19);
        dueRead("stick 1 0  ", -21);
        says(10, "the first byte of the first TOKEN that can not stand there");
        dueRead(";", -10);
        dueRead("5;", -10);
        dueRead("wind 7;;", -17);
        dueRead("wind 7; 7;", -18);
        dueRead("wind;", -14);
        dueRead("wind ;", -15);
        dueRead("wind wind;", -15);
        dueRead("wind 7 wind;", -17);
        dueRead("wind 7 7;", -17);
        dueRead("wind 7wind 7;", -16);
        dueRead("carry 1;", -17);
        dueRead("carry 1 2 3;", -20);
        dueRead("carry;", -15);
        dueRead("match;", -15);
        dueRead("match 1;", -17);
        dueRead("match 1 2;", -19);
        dueRead("match 1 2 3 4;", -22);
        dueRead("match 1 2 x;", -20);
        dueRead("stick;", -15);
        dueRead("stick 1;", -17);
        dueRead("stick 1 0 0;", -20);
        dueRead("stump;", -15);
        dueRead("stump 1 1;", -18);
        dueRead("shelter 1 1;", -20);
        dueRead("wet 1 1;", -16);
        dueRead("end 1 1;", -16);
        dueRead("wind -1;", -15);
        dueRead("wind +1;", -15);
        dueRead("wind 1.;", -16);
        dueRead("wind 1,wet 1;", -16);
        says(10, "of several that can not stand there the first");
        dueRead("wind ? ?;", -15);
        dueRead("wind 1; ? ?", -18);
        dueRead("foo bar", -10);
    }

    private static void readingNumbers() {
        says(10, "figures (1 to 3 are one number)");
        dueRead("wind 9;", 1);
        dueRead("wind 09;", 1);
        dueRead("wind 009;", 1);
        dueRead("carry 005 010;", 1);
        LastMatches x = told("wind 008;");
        due("008", x.clearing(0, 0), 8);
        dueRead("wind 100;", -1000);
        dueRead("wind 999;", -1000);
        dueRead("wind 010;", -1000);
        says(10, "a fourth figure's number: where that number begins");
        dueRead("wind 0009;", -15);
        dueRead("wind 00009;", -15);
        dueRead("wind 1234", -15);
        dueRead("wind0009;", -14);
        dueRead("carry 0005 1;", -16);
        dueRead("carry 5 0001;", -18);
        dueRead("carry 1234;", -16);
        dueRead("match 0 0005 5;", -18);
        dueRead("wind 1;wind 123456789012345678901234567890;", -22);
        says(10, "a number with a blank in it is two");
        dueRead("wind 00 09;", -18);
        dueRead("carry 005 010;", 1);
        dueRead("carry 0 05010;", -18);
        says(10, "a FAULT further on weighs more than an ITEM that is refused");
        dueRead("wind 10;", -1000);
        dueRead("wind 10;?", -18);
        dueRead("wind 10;wind", -22);
    }

    private static void readingItems() {
        says(10, "wind n, as its call is");
        dueRead("wind 0;wind 9;", 2);
        dueRead("wind 0;wind 10;", -1001);
        says(10, "shelter n, as its call is");
        dueRead("shelter 0;shelter 9;", 2);
        dueRead("shelter 0;shelter 10;", -1001);
        says(10, "wet n, as its call is");
        dueRead("wet 0;wet 3;", 2);
        dueRead("wet 0;wet 4;", -1001);
        says(10, "end n, as its call is");
        dueRead("end 0;end 12;", 2);
        dueRead("end 0;end 13;", -1001);
        says(10, "carry r n, as its call is");
        dueRead("carry 0 0;carry 5 10;", 2);
        dueRead("carry 0 0;carry 6 10;", -1001);
        dueRead("carry 0 0;carry 5 11;", -1001);
        says(10, "match KIND HEAD LONG, as its call is");
        dueRead("match 0 0 1;match 5 10 9;", 2);
        dueRead("match 0 0 1;match 6 10 9;", -1001);
        dueRead("match 0 0 1;match 5 11 9;", -1001);
        dueRead("match 0 0 1;match 5 10 10;", -1001);
        dueRead("match 0 0 1;match 5 10 0;", -1001);
        dueRead("match0 0 1;".repeat(6), 6);
        dueRead("match0 0 1;".repeat(7), -1006);
        says(10, "stick THICK BENEATH, as its call is");
        dueRead("stick 1 0;stick 9 1;", 2);
        dueRead("stick 1 0;stick 0 1;", -1001);
        dueRead("stick 1 0;stick 10 1;", -1001);
        dueRead("stick 1 0;stick 9 2;", -1001);
        dueRead("stick 1 1;", -1000);
        dueRead("stick1 0;stick1 1;stick1 3;stick1 7;stick1 15;stick1 31;stick1 63;", 7);
        dueRead("stick1 0;".repeat(8), -1007);
        says(10, "stump n, as its call is");
        dueRead("stump 0;stump 18;", 2);
        dueRead("stump 0;stump 19;", -1001);
        dueRead("stump0;".repeat(5), 5);
        dueRead("stump0;".repeat(6), -1005);
        says(10, "in their order: the later one of like ones holds");
        LastMatches x = told("wind 3;wind 8;carry 2 9;carry 2 1;match 1 2 3;match 4 5 6;");
        due("WIND", x.clearing(0, 0), 8);
        due("CARRY", x.carry(2, 0), 1);
        due("the first match", x.of(0, 0), 1);
        due("the second match", x.of(1, 0), 4);
    }

    private static void readingRefused() {
        says(10, "-1000 less the number of the first ITEM that is refused");
        dueRead("wind 10;wind 10;", -1000);
        dueRead("wind 9;wind 10;wet 4;wind 9;", -1001);
        says(10, "-1000: nothing changes");
        LastMatches x = told("wind 7;match 0 9 5;stick 2 0;stump 3;");
        x.ready();
        x.chance(0, 0);
        type(x, "wind 1;match 0 1 1;match 0 1 1;stump 19;");
        long before = x.digest();
        due("read", x.read(), -1003);
        due("digest", x.digest(), before);
        due("again", x.read(), -1003);
        dueStatus(x, 0, 0, 0);
        says(10, "-10: nothing changes");
        type(x, "wind 1;match 0 1 1;match 0 1 1;stump 1 9;");
        before = x.digest();
        due("read", x.read(), -49);
        due("digest", x.digest(), before);
        says(10, "ITEMS are none of those that STATUS counts");
        dueStatus(x, 0, 0, 0);
        type(x, "match0 0 1;".repeat(7));
        due("a full one", x.read(), -1006);
        dueStatus(x, 0, 0, 0);
    }

    private static void readingAnew() {
        says(10, "told anew by these alone");
        LastMatches x = told("wind 9;shelter 8;wet 3;end 12;carry 0 9;match 0 9 5;stick 2 0;stump 3;");
        x.ready();
        x.strike(true, true);
        x.stump(4);
        type(x, "wet 2;");
        due("read", x.read(), 1);
        for (int what : new int[] {0, 1, 2, 3, 4, 5, 6, 8}) {
            due("count(" + what + ")", x.count(what), 0);
        }
        due("bytes stay", x.count(7), 6);
        due("WIND", x.clearing(0, 2), 2);
        due("SHELTER", x.clearing(1, 0), 0);
        due("WET", x.clearing(2, 1), 2);
        due("END", x.clearing(3, 6), 6);
        due("CARRY", x.carry(0, 2), 2);
        due("nothing may be undone", x.undo(), -3);
        says(10, "told anew by these alone: an empty TEXT's are none");
        x.match(0, 9, 5);
        x.ready();
        x.clear();
        due("read", x.read(), 0);
        due("MATCHES", x.count(0), 0);
        due("MINUTE", x.count(3), 0);
        says(10, "told anew: END by the MINUTE at first");
        getReady(x, 4);
        type(x, "end 0;");
        due("read", x.read(), 1);
        due("behind END", x.ready(), -3);
        says(10, "told anew: what was told ahead lights, burns no more");
        x = told("match 0 9 5;match 0 9 5;match 0 9 5;");
        type(x, "wind 0;end 0;carry 0 10;match 0 5 4;stump 5;");
        due("read", x.read(), 5);
        due("best", x.best(), 1);
        dueFraction("best", x, 1, 2);
        x.rule(0);
        dueFraction("rule", x, 1, 2);
        due("whose", x.whose(0), 0);
        dueFraction("whose", x, 1, 2);
        due("whose", x.whose(1), -5);
        due("stumps", x.stumps(0), 0);
        due("stumps", x.stumps(1), -1);
        due("evenings: as by one match", x.evenings(60, 999999), calmEvenings());
        says(10, "told anew: FULL by these alone");
        x = calm(1, 1, 1, 1, 1, 1);
        type(x, "match0 5 5;");
        due("read", x.read(), 1);
        due("MATCHES", x.count(0), 1);
        due("and once more", x.read(), 1);
        due("MATCHES", x.count(0), 1);
    }

    private static int calmEvenings() {
        LastMatches x = calm(5);
        x.carry(0, 10);
        return x.evenings(60, 999999);
    }

    // ---- 14, 15, 30: of, chance, the fraction

    private static void ofMatch() {
        says(14, "KIND (0), HEAD (1), LIGHTS (2), BURNS (3), and no other; no MATCH but those told");
        LastMatches x = new LastMatches();
        due("no match", x.of(0, 0), -2);
        x.match(5, 10, 9);
        due("KIND", x.of(0, 0), 5);
        due("HEAD", x.of(0, 1), 10);
        due("BURNS", x.of(0, 3), 5);
        due("what -1", x.of(0, -1), -2);
        due("what 4", x.of(0, 4), -2);
        due("match -1", x.of(-1, 0), -2);
        due("match 1", x.of(1, 0), -2);
        due("the highest int", x.of(HIGH, 0), -2);
        due("the lowest int", x.of(LOW, 0), -2);
        dueStatus(x, 7, 0, 0);
        says(14, "of a MATCH that was struck, too");
        x.strike(true, true);
        due("KIND", x.of(0, 0), 5);
        due("LIGHTS", x.of(0, 2), 5);
        says(14, "in how many of 10 it LIGHTS now: in the MINUTE that is, by the wind that is");
        x = told("match 0 10 1;");
        due("minute 0, gust 2", x.of(0, 2), 8);
        x.ready();
        due("minute 1, gust 2", x.of(0, 2), 7);
        x.clearing(0, 9);
        due("minute 1, gust 9", x.of(0, 2), 0);
        x.clearing(1, 9);
        due("minute 1, no gust", x.of(0, 2), 9);
        x.undo();
        due("minute 0, no gust", x.of(0, 2), 10);
        says(14, "the last of six");
        x = calm(1, 2, 3, 4, 5, 6);
        due("match 5", x.of(5, 1), 6);
        due("match 6", x.of(6, 1), -2);
    }

    private static void chances() {
        says(15, "CHANCE to LIGHT (0), to make a FIRE (1), and no other; no MATCH but those told");
        LastMatches x = new LastMatches();
        due("no match", x.chance(0, 0), -2);
        x = calm(7);
        due("what -1", x.chance(0, -1), -2);
        due("what 2", x.chance(0, 2), -2);
        due("match -1", x.chance(-1, 0), -2);
        due("match 1", x.chance(1, 1), -2);
        dueStatus(x, 4, 0, 0);
        dueFraction("is as it was", x, 0, 1);
        says(15, "CHANCE to LIGHT: 0 of 10 to 10 of 10");
        x = calm(0, 10, 1, 9, 5);
        int[][] lights = {{0, 1}, {1, 1}, {1, 10}, {9, 10}, {1, 2}};
        for (int m = 0; m < lights.length; m++) {
            due("chance", x.chance(m, 0), 1);
            dueFraction("match " + m, x, lights[m][0], lights[m][1]);
        }
        says(15, "CHANCE to make a FIRE: by CARRY of READY");
        int[][] fires = {{0, 1}, {1, 5}, {1, 50}, {9, 50}, {1, 10}};
        for (int m = 0; m < fires.length; m++) {
            due("chance", x.chance(m, 1), 1);
            dueFraction("match " + m, x, fires[m][0], fires[m][1]);
        }
        says(15, "of a MATCH that was struck, with a FIRE, too");
        x.strike(true, true);
        x.chance(1, 1);
        dueFraction("one that is left", x, 1, 5);
        due("chance", x.chance(0, 0), 1);
        dueFraction("one that was struck", x, 0, 1);
    }

    private static void fractions() {
        says(30, "above (0), below (1), and no other");
        LastMatches x = calm(10);
        due("-1", x.part(-1), -2);
        due("2", x.part(2), -2);
        due("the highest int", x.part(HIGH), -2);
        dueStatus(x, 3, 0, 0);
        says(30, "lowest terms, below above 0");
        x.chance(0, 0);
        dueFraction("1", x, 1, 1);
        x.carry(0, 0);
        x.chance(0, 1);
        dueFraction("0", x, 0, 1);
        x.carry(0, 5);
        x.chance(0, 1);
        dueFraction("50 of 100", x, 1, 2);
        says(30, "lowest terms: the longest there are");
        // 1 less 0.99 to the sixth; candle: 0.1 of (1 less 0.9 to the sixth), 0.9 of (1 less 0.99 to the fifth).
        x = calm(1, 1, 1, 1, 1, 1);
        x.carry(0, 1);
        x.rule(0);
        dueFraction("six of 1 in 100", x, 58519850599L, 1000000000000L);
        x.candle(6);
        dueFraction("a candle's six tries", x, 9096485509L, 100000000000L);
        x.best();
        due("below is no more than 10 to the 14th", x.part(1) <= 100000000000000L ? 1 : 0, 1);
    }

    // ---- 16, 17, 18: best, rules

    private static void bestDeeds() {
        says(16, "0 there is no MATCH: the chance is 0");
        LastMatches x = new LastMatches();
        due("best", x.best(), 0);
        dueFraction("no match", x, 0, 1);
        x = calm(10);
        due("one is left", x.best(), 2);
        x.strike(false, false);
        due("all were struck", x.best(), 0);
        dueFraction("none is left", x, 0, 1);
        says(16, "of like ones strike");
        x = calm(0);
        due("never a fire", x.best(), 1);
        dueFraction("0", x, 0, 1);
        x = calm(10);
        for (int r = 0; r <= 5; r++) {
            x.carry(r, 6);
        }
        due("by 6 each time", x.best(), 1);
        dueFraction("6 of 10", x, 3, 5);
        x.carry(1, 7);
        due("by 7 then", x.best(), 2);
        dueFraction("7 of 10", x, 7, 10);
        says(16, "till no MINUTE is left");
        x.clearing(3, 0);
        due("none", x.best(), 1);
        dueFraction("6 of 10", x, 3, 5);
        x.clearing(3, 1);
        due("one", x.best(), 2);
        x.ready();
        due("none again", x.best(), 1);
        dueFraction("7 of 10", x, 7, 10);
        says(16, "gets ready as far as END lets it");
        x = calm(10);
        x.clearing(3, 12);
        due("five times", x.best(), 2);
        dueFraction("CARRY of READY 5", x, 7, 10);
        x.clearing(3, 4);
        x.best();
        dueFraction("CARRY of READY 4", x, 3, 5);
        getReady(x, 4);
        due("then strike", x.best(), 1);
        says(16, "READY is 5 at most: nothing is won beyond");
        x.clearing(3, 12);
        due("from 4 to 5", x.best(), 2);
        x.ready();
        due("at 5", x.best(), 1);
        dueFraction("CARRY of READY 5", x, 7, 10);
        says(16, "at each step as is best: get ready between two strikes");
        // The damp one lights by 3 of 10 now, by none in minute 1; the plain one by 10 now, by 7 then.
        x = told("wind 0;end 1;wet 3;carry 0 5;carry 1 10;match 1 5 1;match 0 10 1;");
        due("strike", x.best(), 1);
        dueFraction("1 less 0.85 by 0.3", x, 149, 200);
        x.strike(false, false);
        due("get ready", x.best(), 2);
        dueFraction("7 of 10", x, 7, 10);
        says(16, "without a FIRE: one that is there hinders nothing");
        x = calm(10, 10);
        x.strike(true, true);
        due("get ready", x.best(), 2);
        dueFraction("CARRY of READY 5", x, 7, 10);
        says(16, "the most: six matches and 12 minutes");
        x = calm(1, 1, 1, 1, 1, 1);
        x.clearing(3, 12);
        for (int r = 0; r <= 4; r++) {
            x.carry(r, 0);
        }
        x.carry(5, 1);
        due("get ready", x.best(), 2);
        dueFraction("six of 1 in 100", x, 58519850599L, 1000000000000L);
    }

    private static void rules() {
        says(17, "RULE k (0 .. 5)");
        LastMatches x = calm(10);
        due("-1", x.rule(-1), -2);
        due("6", x.rule(6), -2);
        due("the highest int", x.rule(HIGH), -2);
        dueStatus(x, 3, 0, 0);
        for (int k = 0; k <= 5; k++) {
            due("rule(" + k + ")", x.rule(k), 1);
            due("above", x.part(0) * 10, x.part(1) * (k + 2));
        }
        says(17, "or no MINUTE is left");
        x.clearing(3, 3);
        x.rule(3);
        dueFraction("END 3, rule 3", x, 1, 2);
        x.rule(4);
        dueFraction("END 3, rule 4", x, 1, 2);
        x.rule(5);
        dueFraction("END 3, rule 5", x, 1, 2);
        x.clearing(3, 0);
        x.rule(5);
        dueFraction("END 0, rule 5", x, 1, 5);
        says(17, "READY is k already, or more");
        x.clearing(3, 12);
        getReady(x, 2);
        x.rule(2);
        dueFraction("READY 2, rule 2", x, 2, 5);
        x.rule(0);
        dueFraction("READY 2, rule 0", x, 2, 5);
        x.rule(3);
        dueFraction("READY 2, rule 3", x, 1, 2);
        says(17, "a MINUTE goes by each time");
        x = told("wind 0;wet 2;match 0 10 5;");
        x.rule(5);
        dueFraction("minute 5: nothing lights", x, 0, 1);
        x.rule(4);
        dueFraction("minute 4: 2 by 6", x, 3, 25);
        says(17, "with no MATCH the chance is 0");
        x.strike(false, false);
        due("rule", x.rule(5), 1);
        dueFraction("none is left", x, 0, 1);
        due("rule", new LastMatches().rule(0), 1);
        says(18, "the best k, of like ones the least");
        due("no match", new LastMatches().bestRule(), 0);
        x = calm(10);
        due("END 6", x.bestRule(), 5);
        x.clearing(3, 2);
        due("END 2", x.bestRule(), 2);
        x.clearing(3, 0);
        due("END 0", x.bestRule(), 0);
        x.clearing(3, 12);
        x.carry(3, 7);
        due("3 as good as 5", x.bestRule(), 3);
        x.carry(0, 7);
        due("0 as good as 3", x.bestRule(), 0);
        x.carry(5, 8);
        due("5 alone", x.bestRule(), 5);
        says(18, "READY already: the least k of all that come to the same");
        getReady(x, 5);
        due("READY 5", x.bestRule(), 0);
    }

    // ---- 19, 20, 21, 22, 23

    private static void halves() {
        says(19, "NO: no MATCH is left: -3");
        LastMatches x = calm();
        due("none told", x.split(), -3);
        x = calm(9);
        due("one is left", x.split(), -1);
        x.strike(false, false);
        due("none is left", x.split(), -3);
        dueStatus(x, 0, 1, 0);
        says(19, "half of what it would, cut");
        x = calm(1);
        due("0 and 0 for 1", x.split(), -1);
        // By CARRY 10: 2 halves of 5 in 10 make 75, of 4 in 10 but 64; 1 in 10 each 19, for 2.
        x = calm(2);
        x.carry(0, 10);
        due("0.19 for 0.2", x.split(), -1);
        x = calm(10);
        x.carry(0, 10);
        due("0.75 for 1", x.split(), -1);
        says(19, "as likely (0)");
        x = calm(0);
        due("nothing lights", x.split(), 0);
        x = calm(8);
        x.carry(0, 0);
        due("nothing carries", x.split(), 0);
        x = calm(8, 10);
        x.carry(0, 10);
        due("the other makes it sure", x.split(), 0);
        says(19, "the next MATCH: not one that was struck");
        x = calm(0, 8);
        due("the first can not light", x.split(), 0);
        x.strike(false, false);
        due("the second can", x.split(), -1);
        says(19, "with a FIRE, too");
        x = calm(0, 8);
        x.strike(true, true);
        due("the second", x.split(), -1);
    }

    private static void pairs() {
        says(20, "NO: fewer than two are left: -3");
        LastMatches x = calm();
        due("none", x.both(), -3);
        x = calm(5);
        due("one", x.both(), -3);
        x.match(0, 5, 5);
        due("two", x.both(), -1);
        x.strike(false, false);
        due("one is left", x.both(), -3);
        x.strike(false, false);
        due("none is left", x.both(), -3);
        dueStatus(x, 0, 3, 0);
        says(20, "as likely (0)");
        x = calm(0, 9);
        due("one of them can not light", x.both(), 0);
        x = calm(9, 9);
        x.carry(0, 10);
        due("all that lights makes a fire", x.both(), 0);
        x.carry(0, 0);
        due("nothing does", x.both(), 0);
        x = calm(5, 5, 10);
        x.carry(0, 9);
        due("the third is not sure", x.both(), -1);
        says(20, "the next two: not one that was struck, not one behind them");
        x = calm(5, 0, 5, 5);
        due("5, 0", x.both(), 0);
        x.strike(false, false);
        due("0, 5", x.both(), 0);
        x.strike(false, false);
        due("5, 5", x.both(), -1);
    }

    private static void candles() {
        says(21, "n (1 .. 6)");
        LastMatches x = calm(10);
        due("0", x.candle(0), -2);
        due("7", x.candle(7), -2);
        due("-1", x.candle(-1), -2);
        due("1", x.candle(1), 1);
        dueFraction("one try by 2", x, 1, 5);
        due("6", x.candle(6), 1);
        dueFraction("six tries by 2", x, 11529, 15625);
        says(21, "NO: no MATCH is left");
        due("none", calm().candle(1), -3);
        x.strike(false, false);
        due("none is left", x.candle(6), -3);
        says(21, "the first of BAD, NO");
        due("0", x.candle(0), -2);
        due("7", x.candle(7), -2);
        dueStatus(x, 5, 1, 0);
        dueFraction("is as it was", x, 11529, 15625);
        says(21, "it can not light: all other MATCHES");
        x = calm(0, 5, 10);
        x.candle(6);
        dueFraction("1 less 0.9 by 0.8", x, 7, 25);
        says(21, "it can not light: there are no others");
        x = calm(0);
        x.candle(6);
        dueFraction("0", x, 0, 1);
        says(21, "it lights surely: not the fire, no others are struck");
        x = calm(10, 10);
        x.candle(1);
        dueFraction("one try", x, 1, 5);
        x.carry(0, 10);
        x.candle(1);
        dueFraction("a sure one", x, 1, 1);
        x.carry(0, 0);
        x.candle(6);
        dueFraction("never", x, 0, 1);
    }

    private static void sun() {
        says(22, "m (0 .. 5)");
        LastMatches x = calm(10);
        x.clearing(3, 0);
        due("-1", x.waits(-1, 5, 5), -2);
        due("6", x.waits(6, 5, 5), -2);
        due("0", x.waits(0, 10, 5), 1);
        due("5", x.waits(5, 10, 5), -1);
        says(22, "g of 10 (0 .. 10)");
        due("-1", x.waits(0, -1, 5), -2);
        due("11", x.waits(0, 11, 5), -2);
        due("0", x.waits(0, 0, 5), -1);
        due("10", x.waits(0, 10, 5), 1);
        says(22, "c of 10 (0 .. 10)");
        due("-1", x.waits(1, 5, -1), -2);
        due("11", x.waits(1, 5, 11), -2);
        due("0", x.waits(1, 10, 0), -1);
        due("10", x.waits(1, 10, 10), 1);
        dueStatus(x, 6, 0, 0);
        says(22, "0 hours: whatever the cold");
        due("c 0", x.waits(0, 2, 0), 0);
        due("c 10", x.waits(0, 2, 10), 0);
        says(22, "0 as likely, 1 likelier, -1 less");
        due("2 of 10", x.waits(5, 2, 10), 0);
        due("3 of 10", x.waits(5, 3, 10), 1);
        due("1 of 10", x.waits(5, 1, 10), -1);
        due("one hour of 5 in 10", x.waits(1, 4, 5), 0);
        due("two hours of 5 in 10", x.waits(2, 8, 5), 0);
        due("two hours, a little more", x.waits(2, 9, 5), 1);
        due("two hours, a little less", x.waits(2, 7, 5), -1);
        says(22, "no MATCH: BEST is 0");
        x = calm();
        due("g 0", x.waits(0, 0, 0), 0);
        due("c 0", x.waits(1, 10, 0), 0);
        due("five hours of 1 in 10", x.waits(5, 1, 1), 1);
        says(22, "the finest difference: 1 in 1000000");
        x = calm(1);
        x.clearing(3, 0);
        x.carry(0, 1);
        due("0.01", x.waits(1, 1, 1), 0);
        due("0.001", x.waits(2, 1, 1), -1);
        due("0.02", x.waits(1, 2, 1), 1);
    }

    private static void turns() {
        says(23, "BAD: -10");
        LastMatches x = calm(5, 5);
        due("-1", x.whose(-1), -10);
        due("-2", x.whose(-2), -10);
        due("the lowest int", x.whose(LOW), -10);
        dueStatus(x, 3, 0, 0);
        dueFraction("is as it was", x, 0, 1);
        says(23, "-5: not so many");
        due("the last", x.whose(1), 1);
        due("one behind it", x.whose(2), -5);
        due("the highest int", x.whose(HIGH), -5);
        x.strike(false, false);
        due("the one that is left", x.whose(0), 1);
        due("one behind it", x.whose(1), -5);
        x.strike(false, false);
        due("none is left", x.whose(0), -5);
        due("none was told", calm().whose(0), -5);
        dueStatus(x, 3, 0, 0);
        says(23, "The chance is THE FRACTION: of none 0");
        x = calm(10);
        x.chance(0, 0);
        x.strike(false, false);
        x.whose(0);
        dueFraction("none is left", x, 0, 1);
        says(23, "of like ones the first");
        x = calm(5, 5, 5, 5, 5, 5);
        for (int i = 0; i < 6; i++) {
            due("whose(" + i + ")", x.whose(i), i);
        }
        x = calm(5, 5, 5, 5, 5, 5);
        x.carry(0, 0);
        for (int i = 5; i >= 0; i--) {
            due("whose(" + i + "), no chance", x.whose(i), i);
        }
        says(23, "the first now, each other one a MINUTE behind the one ahead");
        // In minutes 0 and 1 the plain one lights by 10 and 9, the split one by 2 and 0.
        x = told("wind 0;wet 1;match 0 10 5;match 5 2 5;");
        due("the weak one", x.whose(0), 1);
        due("the strong one", x.whose(1), 0);
        dueFraction("1 less 0.96 by 0.82", x, 133, 625);
        says(23, "END or not");
        x.clearing(3, 0);
        due("the weak one", x.whose(0), 1);
        dueFraction("END 0", x, 133, 625);
        says(23, "READY as it is");
        x.carry(1, 10);
        x.carry(2, 10);
        x.whose(0);
        dueFraction("CARRY of READY 0", x, 133, 625);
        says(23, "now: from the MINUTE that is");
        x.clearing(3, 1);
        x.carry(1, 2);
        x.ready();
        due("the split one is lost", x.whose(0), 0);
        dueFraction("9 by 2", x, 9, 50);
    }

    // ---- 24, 25, 26

    private static void laidSticks() {
        says(24, "some STICKS (bits)");
        LastMatches x = told("stick 1 0;stick 2 1;stick 3 3;");
        due("-1", x.laid(-1, -1), -10);
        due("8", x.laid(8, -1), -10);
        due("the lowest int", x.laid(LOW, -1), -10);
        due("the highest int", x.laid(HIGH, -1), -10);
        due("0", x.laid(0, -1), 0);
        due("7", x.laid(7, -1), 7);
        says(24, "stick = NONE, or one that was told");
        due("-2", x.laid(7, -2), -10);
        due("3", x.laid(7, 3), -10);
        due("2", x.laid(7, 2), 0);
        due("0", x.laid(7, 0), 0);
        dueStatus(x, 6, 0, 0);
        says(24, "no STICKS");
        x = new LastMatches();
        due("bits", x.laid(0, -1), 0);
        due("bit 0", x.laid(1, -1), -10);
        due("stick 0", x.laid(0, 0), -10);
        dueStatus(x, 2, 0, 0);
        says(24, "all seven");
        x = told("stick1 0;stick1 1;stick1 3;stick1 7;stick1 15;stick1 31;stick1 63;");
        due("bits", x.laid(127, -1), 127);
        due("one too many", x.laid(128, -1), -10);
        due("stick 6", x.laid(127, 6), 0);
        due("stick 7", x.laid(127, 7), -10);
        due("by the first", x.laid(1, -1), 127);
        due("by the last", x.laid(64, -1), 64);
        says(24, "no less than its own");
        x = told("stick 4 0;stick 5 0;stick 9 3;stick 4 1;stick 5 1;");
        due("4 and 5 for 9, 4 for 4, 4 for 5", x.laid(3, -1), 15);
        due("5 for 9", x.laid(2, -1), 2);
        due("4 for 9, 4, 5", x.laid(1, -1), 9);
        due("in minute 1", x.laid(3, 2), 1);
        due("in no minute", x.laid(3, 4), -1);
        says(24, "those BENEATH: not what lies on it, not what lies apart");
        x = told("stick 1 0;stick 9 1;stick 1 0;");
        due("the upper one", x.laid(2, -1), 2);
        due("both", x.laid(3, -1), 3);
        says(24, "in which minute one lights: 0 for one that is lit at first, even on others that burn");
        x = told("stick 9 0;stick 1 1;");
        due("lit", x.laid(3, 1), 0);
        due("not lit", x.laid(1, 1), 1);
        due("none", x.laid(2, 0), -1);
    }

    private static void burntOut() {
        says(24, "burns in THICK minutes behind it: the last one counts");
        // The third needs both below it: the first burns in minutes 1 and 2, the second, lit in 1, in minute 2.
        LastMatches x = told("stick 2 0;stick 1 1;stick 3 3;");
        due("both in minute 2", x.laid(1, 2), 2);
        says(24, "burns in THICK minutes behind it: not one more");
        x = told("stick 2 0;stick 2 1;stick 1 2;stick 3 5;");
        due("the third lights in minute 2", x.laid(1, 2), 2);
        due("in minute 3 it burns alone", x.laid(1, 3), -1);
        x.clean(0);
        x.stick(3, 0);
        x.stick(2, 1);
        x.stick(1, 2);
        x.stick(4, 5);
        due("a first one of 3 burns in minute 3 yet", x.laid(1, 3), 3);
        says(24, "not in the minute in which it is lit");
        x = told("stick 1 0;stick 1 1;stick 2 3;");
        due("1 in minute 1, 1 in minute 2", x.laid(1, 2), -1);
        due("both in minute 1", x.laid(3, 2), 1);
        says(24, "in each minute from 1 on: the seventh of a row in minute 6");
        x = told("stick9 0;stick9 1;stick9 2;stick9 4;stick9 8;stick9 16;stick9 32;");
        due("the last", x.laid(1, 6), 6);
        says(24, "lights but once");
        x = told("stick 9 0;stick 1 1;stick 9 2;");
        due("the thin one is burnt out and lights no more", x.laid(1, -1), 3);
        due("in minute 1", x.laid(1, 1), 1);
    }

    private static void orders() {
        says(25, "n (1 .. 9)");
        LastMatches x = told("stick 1 0;stick 9 0;");
        due("0", x.order(0, -1), -10);
        due("10", x.order(10, -1), -10);
        due("the highest int", x.order(HIGH, -1), -10);
        due("1", x.order(1, -1), 1);
        due("9", x.order(9, -1), 2);
        says(25, "how many (i = NONE), the i-th");
        due("-2", x.order(9, -2), -10);
        due("the lowest int", x.order(9, LOW), -10);
        due("0", x.order(9, 0), 1);
        due("1", x.order(9, 1), 0);
        dueStatus(x, 5, 0, 0);
        says(25, "-5: not so many STICKS");
        due("2", x.order(9, 2), -5);
        due("the highest int", x.order(9, HIGH), -5);
        due("no sticks", new LastMatches().order(9, 0), -5);
        due("no sticks, how many", new LastMatches().order(9, -1), 0);
        due("by so many STICKS, not by so many lit", x.order(1, 1), 1);
        dueStatus(x, 5, 0, 0);
        says(25, "the first one, if n is no less than its THICK");
        x = told("stick 5 0;");
        due("4", x.order(4, -1), 0);
        due("5", x.order(5, -1), 1);
        due("4, the row", x.order(4, 0), 0);
        says(25, "no less than its own less 2");
        x = told("stick 3 0;stick 5 0;stick 8 0;");
        due("3 lights 5, 5 not 8", x.order(3, -1), 2);
        due("8 first lights all", x.order(8, -1), 3);
        x = told("stick 3 0;stick 5 0;stick 7 0;");
        due("3 lights 5, 5 lights 7", x.order(3, -1), 3);
        says(25, "of like ones the first");
        x = told("stick2 0;stick2 0;stick2 0;stick2 0;stick2 0;stick2 0;stick2 0;");
        for (int i = 0; i < 7; i++) {
            due("order(2, " + i + ")", x.order(2, i), i);
            due("order(1, " + i + "), none lights", x.order(1, i), i);
        }
        due("seven", x.order(2, -1), 7);
        due("none", x.order(1, -1), 0);
        due("the eighth", x.order(2, 7), -5);
        says(25, "of like ones the first: those that light a part of the row");
        x = told("stick 9 0;stick 1 0;stick 2 0;stick 2 0;");
        due("all but 9", x.order(2, -1), 3);
        int[] part = {1, 2, 3, 0};
        for (int i = 0; i < 4; i++) {
            due("order(2, " + i + ")", x.order(2, i), part[i]);
        }
        says(25, "of like ones the first: those behind the lit ones, too");
        x = told("stick 9 0;stick 1 0;stick 8 0;stick 3 0;");
        due("1, 3", x.order(1, -1), 2);
        int[] row = {1, 3, 0, 2};
        for (int i = 0; i < 4; i++) {
            due("order(1, " + i + ")", x.order(1, i), row[i]);
        }
    }

    private static void feeds() {
        LastMatches x = new LastMatches();
        says(26, "f (0 .. 99) logs");
        due("-1", x.feed(-1, 1, 9, 9, -1), -10);
        due("100", x.feed(100, 1, 9, 9, -1), -10);
        due("0", x.feed(0, 1, 99, 99, -1), 1);
        due("99", x.feed(99, 1, 99, 99, -1), 0);
        says(26, "eats e (1 .. 9)");
        due("0", x.feed(9, 0, 9, 9, -1), -10);
        due("10", x.feed(9, 10, 9, 9, -1), -10);
        due("1", x.feed(9, 1, 9, 9, -1), 0);
        due("9", x.feed(9, 9, 9, 9, -1), 8);
        says(26, "b (1 .. 99)");
        due("0", x.feed(9, 1, 0, 9, -1), -10);
        due("100", x.feed(9, 1, 100, 9, -1), -10);
        due("1", x.feed(9, 1, 1, 9, -1), 8);
        due("99", x.feed(9, 1, 99, 10, -1), 1);
        says(26, "t 0 .. 99");
        due("-1", x.feed(9, 1, 9, -1, -1), -10);
        due("100", x.feed(9, 1, 9, 100, -1), -10);
        due("0", x.feed(0, 1, 9, 0, -1), 0);
        due("99", x.feed(0, 1, 1, 99, -1), 99);
        says(26, "how many (i = NONE), in which hour the i-th");
        due("-2", x.feed(9, 1, 9, 9, -2), -10);
        due("the lowest int", x.feed(9, 1, 9, 9, LOW), -10);
        due("0", x.feed(0, 1, 9, 10, 0), 0);
        due("1", x.feed(0, 1, 9, 10, 1), 9);
        says(26, "-5: not so many");
        due("2", x.feed(0, 1, 9, 10, 2), -5);
        due("the highest int", x.feed(0, 1, 9, 10, HIGH), -5);
        due("none at all", x.feed(9, 1, 9, 9, 0), -5);
        due("no hour", x.feed(0, 1, 9, 0, 0), -5);
        due("the 99th", x.feed(0, 9, 1, 99, 98), 98);
        due("the 100th", x.feed(0, 9, 1, 99, 99), -5);
        dueStatus(x, 10, 0, 0);
    }

    private static void feedEdges() {
        LastMatches x = new LastMatches();
        says(26, "f logs, or b, if that is less");
        due("7 for 3", x.feed(7, 1, 3, 9, 0), 3);
        due("3 for 3", x.feed(3, 1, 3, 9, 0), 3);
        due("2 for 3", x.feed(2, 1, 3, 9, 0), 2);
        says(26, "or what there is");
        due("5 by 3: two hours", x.feed(5, 3, 9, 9, 0), 2);
        due("6 by 3: two hours", x.feed(6, 3, 9, 9, 0), 2);
        due("7 by 3: three hours", x.feed(7, 3, 9, 9, 0), 3);
        due("1 by 9: one hour", x.feed(1, 9, 9, 9, 0), 1);
        says(26, "fills it to b");
        due("then 9 by 3: three hours", x.feed(5, 3, 9, 9, 1), 5);
        due("then 8 by 3: three hours", x.feed(5, 3, 8, 9, 1), 5);
        due("then 10 by 3: four hours", x.feed(5, 3, 10, 9, 1), 6);
        says(26, "in each of the hours 0 to t less 1");
        due("up to hour 2", x.feed(3, 1, 3, 3, -1), 0);
        due("hour 3, too", x.feed(3, 1, 3, 4, -1), 1);
        due("in hour 3", x.feed(3, 1, 3, 4, 0), 3);
        says(26, "to begin with: in hour 0, too");
        due("no log at first", x.feed(0, 1, 3, 1, -1), 1);
        due("in hour 0", x.feed(0, 1, 3, 1, 0), 0);
    }

    // ---- 27, 28, 29

    private static void stumpRows() {
        says(27, "how many orders (0), the first MATCH of the first (1), and no other; BAD: -10");
        LastMatches x = told("match 0 5 3;match 0 5 3;match 4 5 6;stump 3;");
        due("-1", x.stumps(-1), -10);
        due("2", x.stumps(2), -10);
        due("the highest int", x.stumps(HIGH), -10);
        due("orders", x.stumps(0), 3);
        due("first", x.stumps(1), 0);
        dueStatus(x, 3, 0, 0);
        says(27, "none twice");
        x.stump(3);
        due("two of three", x.stumps(0), 6);
        x.stump(3);
        due("three of three", x.stumps(0), 6);
        x.stump(3);
        due("four of three", x.stumps(0), 0);
        due("NONE", x.stumps(1), -1);
        says(27, "no STUMPS: the one row of none, that has no first");
        x.clean(1);
        due("orders", x.stumps(0), 1);
        due("NONE", x.stumps(1), -1);
        due("without MATCHES, too", new LastMatches().stumps(0), 1);
        says(27, "STUMPS and no MATCHES");
        LastMatches y = told("stump 3;");
        due("orders", y.stumps(0), 0);
        due("NONE", y.stumps(1), -1);
        says(27, "5 at most: the most rows");
        y = calm(1, 1, 1, 1, 1, 1);
        for (int i = 0; i < 5; i++) {
            y.stump(5);
        }
        due("6 by 5 by 4 by 3 by 2", y.stumps(0), 720);
        due("first", y.stumps(1), 0);
        says(27, "just so long as is told: 0 and 18 none burns");
        x.stump(0);
        due("0", x.stumps(0), 0);
        x.clean(1);
        x.stump(18);
        x.match(3, 5, 9);
        due("18", x.stumps(0), 0);
        x.clean(1);
        x.stump(16);
        due("16", x.stumps(1), 3);
        says(27, "of all: those that were struck, too");
        x.strike(false, false);
        x.clean(1);
        x.stump(3);
        due("orders", x.stumps(0), 3);
        due("first", x.stumps(1), 0);
        says(27, "the first MATCH of the first row: one by which a row can be");
        y = told("match 2 5 3;match 0 5 2;match 0 5 7;stump 2;stump 7;");
        due("first", y.stumps(1), 0);
        y.stump(2);
        due("both ways", y.stumps(0), 2);
        y.clean(1);
        y.stump(7);
        due("the last", y.stumps(1), 2);
    }

    private static void winds() {
        says(28, "of a MATCH that was told");
        LastMatches x = calm(10);
        due("-1", x.winds(-1, 0, 1, 1), -10);
        due("1", x.winds(1, 0, 1, 1), -10);
        due("0", x.winds(0, 0, 1, 1), 0);
        says(28, "t (0 .. 12)");
        due("-1", x.winds(0, -1, 1, 1), -10);
        due("13", x.winds(0, 13, 1, 1), -10);
        due("12", x.winds(0, 12, 1, 1), 0);
        says(28, "k (0 .. 18)");
        due("-1", x.winds(0, 0, -1, 0), -10);
        due("19", x.winds(0, 0, 19, 9), -10);
        due("0", x.winds(0, 0, 0, 0), 0);
        due("18", x.winds(0, 0, 18, 9), 5);
        says(28, "BAD: j above k, too");
        due("-1", x.winds(0, 0, 18, -1), -10);
        due("19 of 18", x.winds(0, 0, 18, 19), -10);
        due("1 of 0", x.winds(0, 0, 0, 1), -10);
        due("0 of 18", x.winds(0, 0, 18, 0), 9);
        due("18 of 18", x.winds(0, 0, 18, 18), 0);
        dueStatus(x, 9, 0, 0);
        says(28, "the WIND (0 .. 9), by the SHELTER there is");
        x.clearing(1, 3);
        due("gust 5 by 8", x.winds(0, 0, 18, 9), 8);
        due("gust 6 is the most", x.winds(0, 0, 18, 0), 9);
        says(28, "of like ones the least");
        due("no gust till 3", x.winds(0, 0, 18, 18), 0);
        x.clearing(1, 0);
        // By winds 4 and 5: 6 by 6 by 4, 5 by 5 by 5; by winds 3 and 4: 7 by 7 by 3, 6 by 6 by 4.
        due("2 of 3", x.winds(0, 0, 3, 2), 3);
        due("1 of 2", x.winds(0, 0, 2, 1), 5);
        LastMatches storm = told("match 2 5 5;");
        due("no wind harms it", storm.winds(0, 0, 18, 9), 0);
        says(28, "none (it can not be)");
        LastMatches wet = told("wet 3;match 0 9 5;");
        due("1 of 1 by 0 of 10", wet.winds(0, 3, 1, 1), -1);
        due("0 of 1 by 0 of 10", wet.winds(0, 3, 1, 0), 0);
        due("1 of 1 by 3 of 10", wet.winds(0, 2, 1, 1), 0);
        LastMatches sure = told("wet 0;match 2 10 5;");
        due("0 of 1 by 10 of 10", sure.winds(0, 0, 1, 0), -1);
        due("17 of 18 by 10 of 10", sure.winds(0, 0, 18, 17), -1);
        due("18 of 18 by 10 of 10", sure.winds(0, 0, 18, 18), 0);
        says(28, "the MINUTE that is told, the WIND that is likeliest: not those of now");
        x = told("wind 9;wet 1;match 0 10 5;");
        x.ready();
        due("minute 0", x.winds(0, 0, 10, 5), 5);
        due("minute 3", x.winds(0, 3, 10, 5), 2);
        due("WIND stays", x.clearing(0, 9), 9);
    }

    private static void evenings() {
        says(29, "n (0 .. 60)");
        LastMatches x = calm(10);
        x.carry(0, 10);
        due("-1", x.evenings(-1, 0), -2);
        due("61", x.evenings(61, 0), -2);
        due("0", x.evenings(0, 0), 0);
        due("60", x.evenings(60, 0), 60);
        says(29, "SEED (0 .. 999999)");
        due("-1", x.evenings(1, -1), -2);
        due("1000000", x.evenings(1, 1000000), -2);
        due("0", x.evenings(1, 0), 1);
        due("999999", x.evenings(1, 999999), 1);
        dueStatus(x, 4, 0, 0);
        says(29, "less than LIGHTS times CARRY");
        // Seeds whose first number draws 20, 19, 89, 90, 0, 1, 98, 99.
        LastMatches by20 = calm(4);
        by20.carry(0, 5);
        due("20 by 20", by20.evenings(1, 28), 0);
        due("19 by 20", by20.evenings(1, 90), 1);
        LastMatches by90 = calm(9);
        by90.carry(0, 10);
        due("90 by 90", by90.evenings(1, 13), 0);
        due("89 by 90", by90.evenings(1, 44), 1);
        LastMatches by1 = calm(1);
        by1.carry(0, 1);
        due("0 by 1", by1.evenings(1, 0), 1);
        due("1 by 1", by1.evenings(1, 70), 0);
        LastMatches by0 = calm(10);
        by0.carry(0, 0);
        due("0 by 0", by0.evenings(1, 0), 0);
        due("99 by 100", x.evenings(1, 194), 1);
        says(29, "by 2147483648 what is left over");
        // Worked out apart from the class: 25 of 100 each evening.
        LastMatches by25 = calm(5);
        by25.carry(0, 5);
        due("60 evenings by seed 999999", by25.evenings(60, 999999), 18);
        due("60 evenings by seed 0", by25.evenings(60, 0), 13);
        says(29, "one behind the other till there is a FIRE");
        by25.match(0, 7, 5);
        due("25 and 35 of 100", by25.evenings(60, 999999), 33);
        says(29, "all MATCHES that are left");
        by25.strike(true, true);
        due("35 of 100", by25.evenings(60, 999999), 23);
        by25.undo();
        by25.strike(false, false);
        by25.strike(false, false);
        due("none is left", by25.evenings(60, 999999), 0);
        due("none was told", new LastMatches().evenings(60, 999999), 0);
        says(29, "SEED at first: each call begins by its own");
        due("seed 0 again", x.evenings(60, 0), 60);
        due("seed 28 again", by20.evenings(1, 28), 0);
        due("seed 28 once more", by20.evenings(1, 28), 0);
    }

    // ---- 31, 32, 33, 34, 35

    private static void imagesKept() {
        says(31, "IMAGES 0, 1, and no other");
        LastMatches x = calm(5);
        due("-1", x.image(-1), -2);
        due("2", x.image(2), -2);
        due("the highest int", x.image(HIGH), -2);
        says(32, "NO: none was kept");
        due("0", x.from(0), -3);
        due("1", x.from(1), -3);
        due("keep 1", x.image(1), 1);
        due("0 is none yet", x.from(0), -3);
        due("1 is one", x.from(1), 1);
        due("keep 0", x.image(0), 1);
        due("0 is one", x.from(0), 1);
        says(32, "BAD: another image, ahead of NO");
        due("-1", x.from(-1), -2);
        due("2", x.from(2), -2);
        due("none kept", new LastMatches().from(2), -2);
        dueStatus(x, 5, 3, 0);
        says(31, "what may be undone they keep");
        x.clearing(3, 12);
        getReady(x, 9);
        x.image(0);
        getReady(x, 2);
        for (int i = 0; i < 8; i++) {
            x.undo();
        }
        due("none", x.undo(), -3);
        due("from", x.from(0), 1);
        due("MINUTE", x.count(3), 9);
        due("may be undone", x.count(6), 8);
        for (int minute = 8; minute >= 1; minute--) {
            due("undo", x.undo(), 1);
            due("MINUTE", x.count(3), minute);
        }
        due("none", x.undo(), -3);
        says(31, "it stays as it was kept, whatever comes behind it");
        due("from once more", x.from(0), 1);
        due("MINUTE", x.count(3), 9);
        x.strike(true, true);
        x.clearing(0, 9);
        due("from once more", x.from(0), 1);
        due("no FIRE", x.count(8), 0);
        due("WIND", x.clearing(0, 0), 0);
        says(31, "kept again: the later one holds; the other one is apart");
        x.clearing(0, 7);
        x.image(0);
        x.from(1);
        due("MINUTE of the other", x.count(3), 0);
        x.from(0);
        due("WIND of the later one", x.clearing(0, 7), 7);
        says(31, "all but them, THE TEXT, THE FRACTION and STATUS");
        x.image(1);
        type(x, "wet 1;");
        x.match(2, 9, 1);
        x.chance(1, 0);
        int bad = x.status(0);
        x.type(-1);
        x.from(1);
        due("MATCHES", x.count(0), 1);
        due("bytes", x.count(7), 6);
        dueFraction("as by the call", x, 9, 10);
        x.from(0);
        due("BAD", x.status(0), bad + 1);
        due("keeps the image of its own", x.from(1), 1);
        says(32, "goes on from one that was full");
        imagesOfFullOnes();
    }

    private static void imagesOfFullOnes() {
        LastMatches x = new LastMatches();
        for (int i = 0; i < 7; i++) {
            x.match(0, 5, 5);
            x.stick(1, 0);
            x.stump(1);
        }
        x.image(0);
        type(x, "");
        x.read();
        due("MATCHES", x.count(0), 0);
        x.image(1);
        x.from(0);
        due("MATCHES", x.count(0), 6);
        due("a seventh", x.match(0, 5, 5), -4);
        due("an eighth", x.stick(1, 0), -4);
        due("a sixth", x.stump(1), -4);
        x.from(1);
        due("a first", x.match(0, 5, 5), 0);
        due("a first", x.stick(1, 0), 0);
        due("a first", x.stump(1), 1);
    }

    private static void statuses() {
        says(33, "-1: another what (counts as BAD)");
        LastMatches x = new LastMatches();
        due("-1", x.status(-1), -1);
        due("3", x.status(3), -1);
        due("the lowest int", x.status(LOW), -1);
        due("the highest int", x.status(HIGH), -1);
        dueStatus(x, 4, 0, 0);
        says(33, "BAD (0), NO (1), FULL (2)");
        for (int i = 0; i < 6; i++) {
            x.stump(1);
        }
        x.undo();
        x.split();
        x.stump(1);
        dueStatus(x, 4, 2, 2);
        says(33, "where others are told they count as these");
        x.whose(-1);
        x.laid(1, -1);
        x.order(0, -1);
        x.feed(0, 0, 0, 0, -1);
        x.stumps(2);
        x.winds(0, 0, 0, 0);
        dueStatus(x, 10, 2, 2);
        says(33, "each answer told so below is such a one: -5, NONE, -1 are none");
        x.whose(0);
        x.order(1, 0);
        x.feed(0, 1, 1, 0, 0);
        x.stumps(1);
        x.laid(0, -1);
        x.waits(0, 0, 0);
        dueStatus(x, 10, 2, 2);
        says(33, "they are counted on: many");
        for (int i = 0; i < 300; i++) {
            x.part(2);
        }
        dueStatus(x, 310, 2, 2);
    }

    private static void counts() {
        says(34, "0 to 8, and no other");
        LastMatches x = new LastMatches();
        due("-1", x.count(-1), -2);
        due("9", x.count(9), -2);
        due("the lowest int", x.count(LOW), -2);
        due("the highest int", x.count(HIGH), -2);
        dueStatus(x, 4, 0, 0);
        says(34, "each at its most");
        x.clearing(3, 12);
        for (int i = 0; i < 12; i++) {
            x.match(0, 5, 5);
            x.stick(1, 0);
            x.stump(1);
            x.ready();
        }
        for (int i = 0; i < 6; i++) {
            x.strike(true, i == 5);
        }
        for (int i = 0; i < 160; i++) {
            x.type(' ');
        }
        int[] most = {6, 6, 5, 12, 7, 5, 8, 150, 1};
        for (int what = 0; what <= 8; what++) {
            due("count(" + what + ")", x.count(what), most[what]);
        }
    }

    private static long hashed(int... v) {
        BigInteger h = BigInteger.valueOf(881);
        for (int each : v) {
            h = h.multiply(BigInteger.valueOf(31)).add(BigInteger.valueOf(each));
        }
        return h.longValue();
    }

    private static void digests() {
        says(35, "h = 881; no MATCHES, STICKS, STUMPS");
        due("a new object", new LastMatches().digest(), hashed(0, 0, 0, 0, 0, 0, 0, 0, 0, 2, 0, 1, 6, 2, 3, 4, 5, 6, 7, 0, 1));
        says(35, "with all at their most (h wraps around)");
        LastMatches x = new LastMatches();
        x.clearing(0, 9);
        x.clearing(1, 9);
        x.clearing(2, 3);
        x.clearing(3, 12);
        int[] v = new int[9 + 4 + 6 + 18 + 14 + 5 + 2];
        int at = 9;
        for (int n : new int[] {9, 9, 3, 12}) {
            v[at++] = n;
        }
        for (int r = 0; r <= 5; r++) {
            x.carry(r, 10 - r);
            v[at++] = 10 - r;
        }
        for (int m = 0; m < 6; m++) {
            x.match(m, 10 - m, 9 - m);
            v[at++] = m;
            v[at++] = 10 - m;
            v[at++] = 9 - m;
        }
        for (int s = 0; s < 7; s++) {
            x.stick(9 - s, (1 << s) - 1);
            v[at++] = 9 - s;
            v[at++] = (1 << s) - 1;
        }
        for (int s = 0; s < 5; s++) {
            x.stump(18 - s);
            v[at++] = 18 - s;
        }
        getReady(x, 12);
        x.strike(false, false);
        x.strike(true, true);
        for (int i = 0; i < 150; i++) {
            x.type(0);
        }
        v[at++] = 0;
        v[at++] = 1;
        int[] counts = {6, 2, 5, 12, 7, 5, 8, 150, 1};
        System.arraycopy(counts, 0, v, 0, 9);
        due("a full one", x.digest(), hashed(v));
        says(35, "THE FRACTION: above, then below");
        x = calm(7);
        x.chance(0, 0);
        due("7 by 10", x.digest(), hashed(1, 0, 0, 0, 0, 0, 0, 0, 0, 0, 0, 0, 6, 2, 3, 4, 5, 6, 7, 0, 7, 5, 7, 10));
        says(35, "a FIRE (1, 0), READY, MINUTE: each by its own place");
        x.ready();
        x.strike(true, true);
        due("fire", x.digest(), hashed(1, 1, 1, 1, 0, 0, 2, 0, 1, 0, 0, 0, 6, 2, 3, 4, 5, 6, 7, 0, 7, 5, 7, 10));
    }
}
