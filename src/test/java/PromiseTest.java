/** One part for each promise of the document: ordinary inputs, the edges it names, wrong inputs. */
public final class PromiseTest {
    private static int wrong = 0;
    private static int looked = 0;
    private static int promise = 0;

    private static void due(String call, long got, long want) {
        looked++;
        if (got != want) {
            wrong++;
            System.out.println("promise " + promise + ": " + call + " answered " + got + ", due is " + want);
        }
    }

    private static void fraction(String what, LastMatches x, long above, long below) {
        due(what + ", above", x.part(0), above);
        due(what + ", below", x.part(1), below);
    }

    private static void type(LastMatches x, String text) {
        x.clear();
        for (int i = 0; i < text.length(); i++) {
            x.type(text.charAt(i));
        }
    }

    private static LastMatches told(String text) {
        LastMatches x = new LastMatches();
        type(x, text);
        if (x.read() < 0) {
            throw new IllegalStateException("the test's own text is refused: " + text);
        }
        return x;
    }

    private static void dueRead(String text, int want) {
        LastMatches x = new LastMatches();
        type(x, text);
        due("read of '" + text + "'", x.read(), want);
    }

    public static void main(String[] args) {
        newObject();
        clearing();
        carry();
        matches();
        sticks();
        stumpsTold();
        clean();
        typed();
        read();
        readFaults();
        readRefused();
        strike();
        ready();
        undo();
        of();
        chance();
        best();
        rule();
        bestRule();
        split();
        both();
        candle();
        waits();
        whose();
        laid();
        order();
        feed();
        stumpRows();
        winds();
        evenings();
        part();
        images();
        status();
        count();
        digest();
        System.out.println(looked + " answers looked at, " + wrong + " wrong");
        if (wrong != 0) {
            System.exit(1);
        }
    }

    private static void newObject() {
        promise = 1;
        LastMatches x = new LastMatches();
        for (int what = 0; what <= 8; what++) {
            due("count(" + what + ")", x.count(what), 0);
        }
        for (int what = 0; what <= 2; what++) {
            due("status(" + what + ")", x.status(what), 0);
        }
        fraction("at first", x, 0, 1);
        due("wind", x.clearing(0, 2), 2);
        due("shelter", x.clearing(1, 0), 0);
        due("wet", x.clearing(2, 1), 1);
        due("end", x.clearing(3, 6), 6);
        for (int r = 0; r <= 5; r++) {
            due("carry(" + r + ")", x.carry(r, r), r + 2);
        }
        due("NONE", LastMatches.NONE, -1);
        due("BAD", LastMatches.BAD, -2);
        due("NO", LastMatches.NO, -3);
        due("FULL", LastMatches.FULL, -4);
    }

    private static void clearing() {
        promise = 2;
        LastMatches x = new LastMatches();
        int[] most = {9, 9, 3, 12};
        int[] first = {2, 0, 1, 6};
        for (int what = 0; what < 4; what++) {
            due("to the most", x.clearing(what, most[what]), first[what]);
            due("beyond", x.clearing(what, most[what] + 1), -2);
            due("below", x.clearing(what, -1), -2);
            due("to 0", x.clearing(what, 0), most[what]);
            due("again", x.clearing(what, first[what]), 0);
        }
        due("what 4", x.clearing(4, 0), -2);
        due("what -1", x.clearing(-1, 0), -2);
        x.ready();
        x.ready();
        due("END behind MINUTE", x.clearing(3, 1), -2);
        due("END at MINUTE", x.clearing(3, 2), 6);
        due("no MINUTE left", x.ready(), -3);
        due("bad ones counted", x.status(0), 11);
    }

    private static void carry() {
        promise = 3;
        LastMatches x = new LastMatches();
        due("carry(5, 10)", x.carry(5, 10), 7);
        due("carry(5, 0)", x.carry(5, 0), 10);
        due("carry(5, 11)", x.carry(5, 11), -2);
        due("carry(5, -1)", x.carry(5, -1), -2);
        due("carry(6, 1)", x.carry(6, 1), -2);
        due("carry(-1, 1)", x.carry(-1, 1), -2);
        due("unchanged", x.carry(5, 3), 0);
    }

    private static void matches() {
        promise = 4;
        LastMatches x = new LastMatches();
        due("kind 6", x.match(6, 5, 5), -2);
        due("kind -1", x.match(-1, 5, 5), -2);
        due("head 11", x.match(0, 11, 5), -2);
        due("head -1", x.match(0, -1, 5), -2);
        due("length 0", x.match(0, 5, 0), -2);
        due("length 10", x.match(0, 5, 10), -2);
        for (int i = 0; i < 6; i++) {
            due("match", x.match(i, i == 0 ? 0 : 10, i == 0 ? 1 : 9), i);
        }
        due("full", x.match(0, 0, 1), -4);
        due("bad ahead of full", x.match(0, 0, 10), -2);
        due("six", x.count(0), 6);
        due("full ones", x.status(2), 1);
    }

    private static void sticks() {
        promise = 5;
        LastMatches x = new LastMatches();
        due("nothing is beneath the first", x.stick(1, 1), -2);
        due("thick 0", x.stick(0, 0), -2);
        due("thick 10", x.stick(10, 0), -2);
        for (int i = 0; i < 7; i++) {
            due("beneath itself", x.stick(9, 1 << i), -2);
            due("beneath -1", x.stick(9, -1), -2);
            due("stick", x.stick(9, (1 << i) - 1), i);
        }
        due("full", x.stick(1, 127), -4);
        due("bad ahead of full", x.stick(1, 128), -2);
        due("seven", x.count(4), 7);
    }

    private static void stumpsTold() {
        promise = 6;
        LastMatches x = new LastMatches();
        due("19", x.stump(19), -2);
        due("-1", x.stump(-1), -2);
        for (int i = 1; i <= 5; i++) {
            due("stump", x.stump(i == 1 ? 0 : 18), i);
        }
        due("full", x.stump(1), -4);
        due("bad ahead of full", x.stump(19), -2);
        due("five", x.count(5), 5);
    }

    private static void clean() {
        promise = 7;
        LastMatches x = told("stick 1 0; stick 1 1; stump 3;");
        due("clean(2)", x.clean(2), -2);
        due("clean(-1)", x.clean(-1), -2);
        due("sticks", x.clean(0), 2);
        due("stumps stay", x.count(5), 1);
        due("no sticks", x.count(4), 0);
        due("again", x.clean(0), 0);
        due("stumps", x.clean(1), 1);
        due("no stumps", x.clean(1), 0);
        due("a stick by new numbers", x.stick(2, 1), -2);
        due("a stick by new numbers", x.stick(2, 0), 0);
    }

    private static void typed() {
        promise = 8;
        LastMatches x = new LastMatches();
        due("-1", x.type(-1), -2);
        due("128", x.type(128), -2);
        for (int i = 1; i <= 150; i++) {
            due("type", x.type(i % 128), i);
        }
        due("full", x.type(0), -4);
        due("bad ahead of full", x.type(200), -2);
        due("150", x.count(7), 150);
        promise = 9;
        due("clear", x.clear(), 150);
        due("clear again", x.clear(), 0);
        due("none", x.count(7), 0);
        due("type", x.type(127), 1);
    }

    private static void read() {
        promise = 10;
        dueRead("", 0);
        dueRead("   ", 0);
        dueRead("wind0;", 1);
        dueRead(" wind  009 ;shelter 9;wet 3 ; end 12;carry 5 10;match 5 10 9;stick 9 0;stump 18; ", 8);
        dueRead("end0;end0;end0;end0;end0;end0;end0;end0;end0;end0;end0;end0;end0;end0;end0;"
            + "end0;end0;end0;end0;end0;end0;end0;end0;end0;end0;end0;end0;end0;end0;end0;", 30);
        String text = "wind 9; shelter 8; wet 3; end 12; carry 5 10; match 3 10 9; stick 9 0; stick 8 1; stump 18;";
        LastMatches x = told(text);
        due("wind", x.clearing(0, 9), 9);
        due("shelter", x.clearing(1, 8), 8);
        due("wet", x.clearing(2, 3), 3);
        due("end", x.clearing(3, 12), 12);
        due("carry 5", x.carry(5, 10), 10);
        due("carry 4", x.carry(4, 6), 6);
        due("kind", x.of(0, 0), 3);
        due("head", x.of(0, 1), 10);
        due("burns", x.of(0, 3), 16);
        due("sticks", x.count(4), 2);
        due("stumps", x.count(5), 1);
        x.ready();
        x.strike(true, true);
        x.image(0);
        x.chance(0, 0);
        long above = x.part(0);
        due("read anew", x.read(), 9);
        due("one match", x.count(0), 1);
        for (int what : new int[] {1, 2, 3, 6, 8}) {
            due("count(" + what + ") is as at first", x.count(what), 0);
        }
        due("the fraction stays", x.part(0), above);
        due("the text stays", x.count(7), text.length());
        due("the image stays", x.from(0), 1);
        due("and its fire", x.count(8), 1);
    }

    private static void readFaults() {
        promise = 10;
        dueRead(";", -10);
        dueRead("7;", -10);
        dueRead("  windy 3;", -12);
        dueRead("windz 3;", -10);
        dueRead("awind 3;", -10);
        dueRead("wxnd 3;", -10);
        dueRead("wind{3;", -14);
        dueRead("wind`3;", -14);
        dueRead("wind/3;", -14);
        dueRead("wind:3;", -14);
        dueRead("win", -10);
        dueRead("Wind 3;", -10);
        dueRead("winD 3;", -10);
        dueRead("windD 3;", -14);
        dueRead("wind 3", -16);
        dueRead("wind 3  ", -18);
        dueRead("wind", -14);
        dueRead("wind 3;wind", -21);
        dueRead("wind;", -14);
        dueRead("wind 1 2;", -17);
        dueRead("wind wind 2;", -15);
        dueRead("carry 1;", -17);
        dueRead("carry 1 2 3;", -20);
        dueRead("match 1 2;", -19);
        dueRead("match 1 2 3 4;", -22);
        dueRead("stick 1 0 0;", -20);
        dueRead("stump 1 0;", -18);
        dueRead("wind 0003;", -15);
        dueRead("wind 1234", -15);
        dueRead("carry 1234;", -16);
        dueRead("wind\t3;", -14);
        dueRead("wind -3;", -15);
        dueRead("wind 3a;", -16);
        dueRead("wind 3;;", -17);
        dueRead("wind 3; 4;", -18);
        dueRead("wind 99; what", -19);
        LastMatches x = told("match 0 9 5;");
        type(x, "match 0 9 5; match 0 9 5; x");
        due("a fault changes nothing", x.read(), -36);
        due("one match", x.count(0), 1);
        due("not counted", x.status(0) + x.status(1) + x.status(2), 0);
    }

    private static void readRefused() {
        promise = 10;
        dueRead("wind 10;", -1000);
        dueRead("wind 9; shelter 999; wet 9;", -1001);
        dueRead("end 13;", -1000);
        dueRead("carry 6 1;", -1000);
        dueRead("match 0 10 9; match 0 10 10;", -1001);
        dueRead("stick 1 1;", -1000);
        dueRead("stick 1 0; stick 1 2;", -1001);
        dueRead("stump 18; stump 19;", -1001);
        dueRead("match 0 1 1;match 0 1 1;match 0 1 1;match 0 1 1;match 0 1 1;match 0 1 1;match 0 1 1;", -1006);
        dueRead("stump 1;stump 1;stump 1;stump 1;stump 1;stump 1;", -1005);
        LastMatches x = told("wind 7; match 0 9 5;");
        x.ready();
        type(x, "wind 1; wind 10;");
        due("refused", x.read(), -1001);
        due("wind stays", x.clearing(0, 7), 7);
        due("ready stays", x.count(2), 1);
        due("may be undone yet", x.count(6), 1);
        due("not counted", x.status(0) + x.status(1) + x.status(2), 0);
        x.clearing(3, 1);
        type(x, "end 0;");
        due("END by the MINUTE of the new one", x.read(), 1);
    }

    private static void strike() {
        promise = 11;
        LastMatches x = new LastMatches();
        due("bad ahead of no", x.strike(false, true), -2);
        due("no match", x.strike(false, false), -3);
        x = told("match 0 9 5; match 0 9 5; match 0 9 5; match 0 9 5;");
        due("dark", x.strike(false, false), 0);
        due("lit", x.strike(true, false), 1);
        due("struck", x.count(1), 2);
        due("no minute goes by", x.count(3), 0);
        due("bad", x.strike(false, true), -2);
        due("fire", x.strike(true, true), 2);
        due("there is a fire", x.count(8), 1);
        due("with a fire", x.strike(true, false), -3);
        due("bad ahead of no", x.strike(false, true), -2);
        due("struck", x.count(1), 3);
        due("may be undone", x.count(6), 3);
    }

    private static void ready() {
        promise = 12;
        LastMatches x = new LastMatches();
        x.clearing(3, 7);
        for (int i = 1; i <= 7; i++) {
            due("ready", x.ready(), Math.min(i, 5));
            due("minute", x.count(3), i);
        }
        due("behind END", x.ready(), -3);
        x.clearing(3, 8);
        due("END later", x.ready(), 5);
        x = told("match 0 9 5;");
        x.strike(true, true);
        due("with a fire", x.ready(), -3);
        due("no ones", x.status(1), 1);
        x = told("end 0;");
        due("END 0", x.ready(), -3);
    }

    private static void undo() {
        promise = 13;
        LastMatches x = told("match 0 9 5; match 0 9 5; end 12;");
        due("none", x.undo(), -3);
        x.ready();
        x.strike(false, false);
        x.ready();
        x.strike(true, true);
        due("a fire goes", x.undo(), 1);
        due("no fire", x.count(8), 0);
        due("one struck", x.count(1), 1);
        due("ready goes", x.undo(), 1);
        due("ready", x.count(2), 1);
        due("minute", x.count(3), 1);
        due("a match is back", x.undo(), 1);
        due("none struck", x.count(1), 0);
        due("all undone", x.undo(), 1);
        due("ready", x.count(2), 0);
        due("none", x.undo(), -3);
        for (int i = 0; i < 10; i++) {
            x.ready();
        }
        due("8 at most", x.count(6), 8);
        for (int i = 1; i <= 8; i++) {
            due("undo", x.undo(), 1);
            due("minute", x.count(3), 10 - i);
        }
        due("the two first stay", x.undo(), -3);
        due("ready then", x.count(2), 2);
    }

    private static void of() {
        promise = 14;
        LastMatches x = told("wind 5; shelter 2; match 0 9 5; match 1 9 4; match 2 7 1; match 3 8 6; match 4 10 5; match 5 10 3;");
        int[][] want = {{0, 9, 6, 5}, {1, 9, 4, 4}, {2, 7, 7, 1}, {3, 8, 8, 10}, {4, 10, 3, 3}, {5, 10, 4, 2}};
        for (int m = 0; m < 6; m++) {
            for (int what = 0; what < 4; what++) {
                due("of(" + m + ", " + what + ")", x.of(m, what), want[m][what]);
            }
        }
        x.ready();
        x.clearing(2, 3);
        x.strike(false, false);
        int[] later = {3, 1, 4, 5, 2, 3};
        for (int m = 0; m < 6; m++) {
            due("later of(" + m + ", 2)", x.of(m, 2), later[m]);
        }
        x.ready();
        x.ready();
        int[] last = {0, 0, 0, 0, 0, 0};
        for (int m = 0; m < 6; m++) {
            due("at last of(" + m + ", 2)", x.of(m, 2), last[m]);
        }
        x = told("match 3 8 1; match 4 3 9; match 5 4 1; match 2 1 9; shelter 9;");
        due("tarred, short", x.of(0, 3), 2);
        due("half of 9, cut up", x.of(1, 3), 5);
        due("split of 1, cut up", x.of(2, 3), 1);
        due("storm", x.of(3, 3), 8);
        due("half of 3", x.of(1, 2), 1);
        due("split of 4", x.of(2, 2), 3);
        x.clearing(2, 3);
        x.ready();
        due("split of 1", x.of(2, 2), 0);
        due("no such match", x.of(4, 0), -2);
        due("match -1", x.of(-1, 0), -2);
        due("what 4", x.of(0, 4), -2);
        due("what -1", x.of(0, -1), -2);
    }

    private static void chance() {
        promise = 15;
        LastMatches x = told("wind 0; match 0 8 5; match 0 5 5; match 0 0 5;");
        due("chance", x.chance(0, 0), 1);
        fraction("lights", x, 4, 5);
        due("chance", x.chance(0, 1), 1);
        fraction("fire", x, 4, 25);
        x.chance(1, 0);
        fraction("half", x, 1, 2);
        due("bad", x.chance(3, 0), -2);
        due("bad", x.chance(-1, 0), -2);
        due("bad", x.chance(0, 2), -2);
        due("bad", x.chance(0, -1), -2);
        fraction("stays", x, 1, 2);
        x.chance(2, 1);
        fraction("none", x, 0, 1);
        x.strike(false, false);
        due("a struck one", x.chance(0, 0), 1);
        fraction("a struck one", x, 4, 5);
        x.ready();
        x.chance(0, 1);
        fraction("ready 1, minute 1", x, 21, 100);
        x.carry(1, 10);
        x.clearing(2, 0);
        x.match(2, 10, 1);
        x.chance(3, 1);
        fraction("sure", x, 1, 1);
    }

    private static void best() {
        promise = 16;
        LastMatches x = told("wind 0; wet 0; end 1; match 0 5 5;");
        due("get ready", x.best(), 2);
        fraction("by 3", x, 3, 20);
        x.carry(1, 2);
        due("of like ones strike", x.best(), 1);
        fraction("by 2", x, 1, 10);
        x.carry(1, 3);
        x.ready();
        due("no minute left", x.best(), 1);
        fraction("by 3", x, 3, 20);
        x.strike(true, true);
        due("no match", x.best(), 0);
        fraction("none", x, 0, 1);
        // The weak one now by 15 of 100, the strong one two minutes later by 60 of 100, not now by 50.
        x = told("wind 0; wet 2; end 5; carry 0 5; carry 1 0; carry 2 10; match 0 3 1; match 2 10 1;");
        due("strike first", x.best(), 1);
        fraction("1 less 0.85 times 0.4", x, 33, 50);
        x.strike(true, false);
        due("then get ready", x.best(), 2);
        fraction("the second one later", x, 3, 5);
        x.ready();
        due("and once more", x.best(), 2);
        x.ready();
        due("then strike", x.best(), 1);
        fraction("now", x, 3, 5);
        due("nothing is changed", x.count(1), 1);
    }

    private static void rule() {
        promise = 17;
        LastMatches x = told("wind 0; wet 0; end 2; match 0 5 5; match 0 10 5;");
        due("rule(0)", x.rule(0), 1);
        fraction("0.1, 0.2", x, 7, 25);
        x.rule(1);
        fraction("0.15, 0.3", x, 81, 200);
        x.rule(2);
        fraction("0.2, 0.4", x, 13, 25);
        x.rule(5);
        fraction("no minute left", x, 13, 25);
        due("bad", x.rule(6), -2);
        due("bad", x.rule(-1), -2);
        x.ready();
        x.rule(0);
        fraction("ready already", x, 81, 200);
        x.strike(true, true);
        x.rule(0);
        fraction("what is left, without a fire", x, 3, 10);
        x.clearing(2, 2);
        x.rule(2);
        fraction("a wet minute more", x, 6, 25);
        x.strike(true, true);
        x.undo();
        due("with no match", new LastMatches().rule(5), 1);
    }

    private static void bestRule() {
        promise = 18;
        LastMatches x = told("wind 0; wet 0; end 2; match 0 5 5; match 0 10 5;");
        x.chance(0, 0);
        due("till END", x.bestRule(), 2);
        fraction("the fraction stays", x, 1, 2);
        x.clearing(3, 12);
        due("till 5", x.bestRule(), 5);
        x.carry(3, 9);
        due("3", x.bestRule(), 3);
        x.carry(1, 9);
        due("of like ones the least", x.bestRule(), 1);
        x.ready();
        x.ready();
        x.ready();
        due("of like ones the least", x.bestRule(), 0);
        due("no matches", new LastMatches().bestRule(), 0);
    }

    private static void split() {
        promise = 19;
        LastMatches x = new LastMatches();
        due("no match", x.split(), -3);
        x = told("wind 0; match 0 8 5;");
        due("4 and 4 less than 8", x.split(), -1);
        x.carry(0, 0);
        due("no carry", x.split(), 0);
        x = told("wind 0; match 0 0 5;");
        due("none lights", x.split(), 0);
        x = told("wind 0; carry 0 10; match 0 8 5; match 0 10 5;");
        due("a sure one behind", x.split(), 0);
        due("no more than the next", x.count(1), 0);
        x.strike(false, false);
        due("the sure one", x.split(), -1);
        x.strike(true, true);
        due("none is left", x.split(), -3);
    }

    private static void both() {
        promise = 20;
        LastMatches x = told("wind 0; match 0 5 5;");
        due("one match", x.both(), -3);
        x.match(0, 5, 5);
        // 0.75 times 0.2 is less than 1 less 0.9 times 0.9.
        due("two", x.both(), -1);
        x.carry(0, 10);
        due("a sure carry", x.both(), 0);
        x.carry(0, 2);
        x.match(0, 10, 5);
        x.strike(true, true);
        due("two left, with a fire", x.both(), -1);
        x.undo();
        x.strike(false, false);
        x.strike(false, false);
        due("one left", x.both(), -3);
        x = told("wind 0; match 0 0 5; match 0 8 5;");
        due("one can not light", x.both(), 0);
    }

    private static void candle() {
        promise = 21;
        LastMatches x = new LastMatches();
        due("bad ahead of no", x.candle(0), -2);
        due("no match", x.candle(6), -3);
        x = told("wind 0; match 0 5 5; match 0 10 5;");
        due("candle(1)", x.candle(1), 1);
        fraction("0.5 of 0.2, 0.5 of 0.2", x, 1, 5);
        x.candle(2);
        fraction("0.5 of 0.36, 0.5 of 0.2", x, 7, 25);
        x.candle(6);
        // 1 less 0.8 to the sixth is 0.737856.
        fraction("0.5 of 0.737856, 0.5 of 0.2", x, 7327, 15625);
        due("7", x.candle(7), -2);
        due("-1", x.candle(-1), -2);
        x.strike(true, true);
        x.candle(1);
        fraction("the last, with a fire", x, 1, 5);
        x.undo();
        x.strike(false, false);
        x.strike(false, false);
        due("none left", x.candle(1), -3);
    }

    private static void waits() {
        promise = 22;
        LastMatches x = told("wind 0; end 0; match 0 10 5;");
        x.chance(0, 0);
        due("as likely", x.waits(0, 2, 0), 0);
        due("likelier", x.waits(0, 3, 0), 1);
        due("less likely", x.waits(0, 1, 0), -1);
        due("two hours of 5 in 10", x.waits(2, 8, 5), 0);
        due("two hours of 5 in 10", x.waits(2, 9, 5), 1);
        due("two hours of 5 in 10", x.waits(2, 7, 5), -1);
        due("five hours, sure", x.waits(5, 2, 10), 0);
        due("no one bears it", x.waits(1, 10, 0), -1);
        fraction("the fraction stays", x, 1, 1);
        due("m", x.waits(6, 0, 0), -2);
        due("m", x.waits(-1, 0, 0), -2);
        due("g", x.waits(0, 11, 0), -2);
        due("g", x.waits(0, -1, 0), -2);
        due("c", x.waits(0, 0, 11), -2);
        due("c", x.waits(0, 0, -1), -2);
        due("bad ones", x.status(0), 6);
        due("the most of each", x.waits(5, 10, 10), 1);
        x.clearing(3, 5);
        x.clearing(2, 0);
        due("by BEST", x.waits(0, 7, 0), 0);
    }

    private static void whose() {
        promise = 23;
        LastMatches x = told("wind 0; end 0; match 2 5 5; match 0 9 5; match 0 9 5;");
        x.clearing(0, 4);
        // In minutes 0, 1, 2: storm 5, 4, 3; plain 5, 4, 3: all alike.
        due("of like ones the first", x.whose(0), 0);
        due("second", x.whose(1), 1);
        due("third", x.whose(2), 2);
        due("not so many", x.whose(3), -5);
        due("-1", x.whose(-1), -10);
        // 1 less 0.9 times 0.92 times 0.94.
        fraction("the chance", x, 2771, 12500);
        x.clearing(2, 3);
        x.clearing(0, 0);
        // Plain 9, 6, 3 and storm 5, 2, 0: a storm first would waste the plain ones.
        due("first", x.whose(0), 1);
        due("second", x.whose(1), 2);
        due("third", x.whose(2), 0);
        x.strike(true, true);
        due("left", x.whose(0), 1);
        due("left", x.whose(1), 2);
        x.chance(0, 0);
        due("not so many", x.whose(2), -5);
        // 1 less 0.82 times 0.88, END or not, without a fire.
        fraction("the chance", x, 174, 625);
        x.carry(0, 10);
        x.clearing(2, 0);
        x.match(2, 10, 1);
        due("a sure one anywhere: the first row", x.whose(0), 1);
        due("bad ones", x.status(0), 1);
        due("no ones", x.status(1), 0);
        x = new LastMatches();
        due("none", x.whose(0), -5);
    }

    private static void laid() {
        promise = 24;
        LastMatches x = told("stick 2 0; stick 2 0; stick 4 3; stick 4 4; stick 9 7;");
        due("one is too thin", x.laid(1, -1), 1);
        due("both carry the third", x.laid(3, -1), 15);
        due("a lit one", x.laid(3, 1), 0);
        due("third", x.laid(3, 2), 1);
        due("fourth", x.laid(3, 3), 2);
        due("fifth never", x.laid(3, 4), -1);
        due("nothing lit", x.laid(0, -1), 0);
        due("all lit", x.laid(31, -1), 31);
        due("bits", x.laid(32, -1), -10);
        due("bits", x.laid(-1, -1), -10);
        due("stick", x.laid(1, 5), -10);
        due("stick", x.laid(1, -2), -10);
        x = told("stick 1 0; stick 1 1; stick 1 2; stick 3 7; stick 2 3;");
        due("each burns out ahead of the next", x.laid(1, -1), 7);
        due("in minute 2", x.laid(1, 2), 2);
        x = told("stick 5 0; stick 1 1; stick 6 3; stick 3 4;");
        // The second lights in minute 1 and burns in minute 2 beside the first.
        due("together", x.laid(1, 2), 2);
        due("behind", x.laid(1, 3), 3);
        due("all", x.laid(1, -1), 15);
        x.clean(0);
        due("no sticks", x.laid(0, 0), -10);
        due("bad ones", x.status(0), 1);
    }

    private static void order() {
        promise = 25;
        LastMatches x = told("stick 1 0; stick 5 0; stick 3 0; stick 9 0;");
        due("n 0", x.order(0, -1), -10);
        due("n 10", x.order(10, -1), -10);
        due("i -2", x.order(1, -2), -10);
        due("1, 3, 5 and not 9", x.order(1, -1), 3);
        int[] want = {0, 2, 1, 3};
        for (int i = 0; i < 4; i++) {
            due("order(1, " + i + ")", x.order(1, i), want[i]);
        }
        due("not so many", x.order(1, 4), -5);
        due("9 first", x.order(9, -1), 4);
        int[] all = {3, 0, 2, 1};
        for (int i = 0; i < 4; i++) {
            due("order(9, " + i + ")", x.order(9, i), all[i]);
        }
        x = told("stick 6 0; stick 4 0;");
        due("none lights", x.order(3, -1), 0);
        due("the first row", x.order(3, 0), 0);
        due("the first row", x.order(3, 1), 1);
        due("4 lights 6", x.order(4, -1), 2);
        due("4 first", x.order(4, 0), 1);
        due("bad ones", x.status(0), 0);
    }

    private static void feed() {
        promise = 26;
        LastMatches x = new LastMatches();
        // 4 logs by 3 an hour last two hours, 7 three.
        due("how many", x.feed(4, 3, 7, 9, -1), 3);
        due("first", x.feed(4, 3, 7, 9, 0), 2);
        due("second", x.feed(4, 3, 7, 9, 1), 5);
        due("third", x.feed(4, 3, 7, 9, 2), 8);
        due("not so many", x.feed(4, 3, 7, 9, 3), -5);
        due("just enough", x.feed(4, 3, 7, 8, -1), 2);
        due("the most of each", x.feed(99, 9, 99, 99, -1), 8);
        due("no more than b", x.feed(99, 1, 2, 3, 0), 2);
        due("each hour", x.feed(0, 9, 1, 99, -1), 99);
        due("the last hour", x.feed(0, 9, 1, 99, 98), 98);
        due("no hour", x.feed(0, 1, 1, 0, -1), 0);
        int[][] bad = {{-1, 1, 1, 1, 0}, {100, 1, 1, 1, 0}, {1, 0, 1, 1, 0}, {1, 10, 1, 1, 0}, {1, 1, 0, 1, 0},
            {1, 1, 100, 1, 0}, {1, 1, 1, -1, 0}, {1, 1, 1, 100, 0}, {1, 1, 1, 1, -2}};
        for (int[] b : bad) {
            due("bad", x.feed(b[0], b[1], b[2], b[3], b[4]), -10);
        }
        due("bad ones", x.status(0), 9);
    }

    private static void stumpRows() {
        promise = 27;
        LastMatches x = told("match 0 5 3; match 4 5 5; match 2 5 4; match 0 5 6;");
        due("the empty row", x.stumps(0), 1);
        due("has no first", x.stumps(1), -1);
        x.stump(3);
        due("three of 3", x.stumps(0), 3);
        x.stump(3);
        due("two of them", x.stumps(0), 6);
        x.stump(6);
        due("and the one of 6", x.stumps(0), 6);
        due("the first", x.stumps(1), 0);
        x.strike(false, false);
        due("struck ones, too", x.stumps(0), 6);
        x.stump(3);
        due("all four", x.stumps(0), 6);
        x.stump(3);
        due("too many", x.stumps(0), 0);
        due("none", x.stumps(1), -1);
        x.clean(1);
        x.stump(6);
        due("the last match", x.stumps(1), 3);
        due("bad", x.stumps(2), -10);
        due("bad", x.stumps(-1), -10);
    }

    private static void winds() {
        promise = 28;
        LastMatches x = told("match 0 10 3; match 2 5 3; match 1 9 3; shelter 1;");
        due("7 of 10: gust 3 by shelter 1", x.winds(0, 0, 10, 7), 4);
        due("a minute later", x.winds(0, 1, 10, 7), 3);
        due("no wind harms it", x.winds(1, 0, 4, 2), 0);
        due("none lit", x.winds(0, 9, 18, 0), 2);
        due("all lit", x.winds(2, 0, 18, 18), 0);
        due("between", x.winds(0, 0, 2, 1), 6);
        due("it can not be", x.winds(0, 10, 2, 1), -1);
        due("not a try", x.winds(0, 12, 0, 0), 0);
        due("a sure one fails", told("wet 0; match 2 10 1;").winds(0, 0, 1, 0), -1);
        int[][] bad = {{3, 0, 1, 1}, {-1, 0, 1, 1}, {0, -1, 1, 1}, {0, 13, 1, 1}, {0, 0, 19, 1}, {0, 0, -1, 0}, {0, 0, 1, 2}, {0, 0, 1, -1}};
        for (int[] b : bad) {
            due("bad", x.winds(b[0], b[1], b[2], b[3]), -10);
        }
        due("bad ones", x.status(0), 8);
    }

    private static void evenings() {
        promise = 29;
        LastMatches x = told("wind 0; match 0 10 5;");
        // Seed 0: X 12345, cut 0, less than 20; then 1406932606: 21468, 68; then 654583775: 9988, 88.
        due("first", x.evenings(1, 0), 1);
        due("second", x.evenings(2, 0), 1);
        due("third", x.evenings(3, 0), 1);
        x.carry(0, 7);
        due("68 by 70", x.evenings(2, 0), 2);
        x.carry(0, 0);
        due("0 is not less than 0", x.evenings(1, 0), 0);
        due("the last seed", x.evenings(60, 999999), 0);
        x.carry(0, 7);
        due("88 by 70", x.evenings(3, 0), 2);
        due("no evening", x.evenings(0, 999999), 0);
        x.match(2, 10, 5);
        // 0; 68; 88 and 1449466924: 22117, 17.
        due("two matches", x.evenings(3, 0), 3);
        x.strike(true, true);
        due("the one that is left", x.evenings(3, 0), 2);
        x.strike(true, true);
        due("a seed beyond", x.evenings(1, 1000000), -2);
        due("a seed below", x.evenings(1, -1), -2);
        due("61", x.evenings(61, 0), -2);
        due("-1", x.evenings(-1, 0), -2);
    }

    private static void part() {
        promise = 30;
        LastMatches x = told("match 2 6 5;");
        x.chance(0, 0);
        due("above", x.part(0), 3);
        due("below", x.part(1), 5);
        due("bad", x.part(2), -2);
        due("bad", x.part(-1), -2);
        due("bad ones", x.status(0), 2);
    }

    private static void images() {
        promise = 31;
        String text = "wind 7; match 0 9 5; stick 3 0; stump 4; carry 2 9;";
        LastMatches x = told(text);
        x.ready();
        due("image(0)", x.image(0), 1);
        due("image(2)", x.image(2), -2);
        due("image(-1)", x.image(-1), -2);
        promise = 32;
        due("none was kept", x.from(1), -3);
        due("from(2)", x.from(2), -2);
        due("from(-1)", x.from(-1), -2);
        long before = x.digest();
        due("the text was told", x.count(7), text.length());
        x.strike(true, true);
        x.image(1);
        x.undo();
        x.undo();
        x.match(1, 1, 1);
        x.clean(0);
        x.clean(1);
        x.carry(2, 0);
        x.clearing(0, 0);
        due("from(0)", x.from(0), 1);
        due("all is back", x.digest(), before);
        due("from(1)", x.from(1), 1);
        due("the fire", x.count(8), 1);
        due("two may be undone", x.count(6), 2);
        due("undo", x.undo(), 1);
        due("undo", x.undo(), 1);
        due("wind", x.clearing(0, 1), 7);
        due("from(1) again", x.from(1), 1);
        due("wind", x.clearing(0, 1), 7);
        x.clear();
        x.chance(0, 0);
        long above = x.part(0);
        int bad = x.status(0);
        x.from(0);
        due("the text is none of it", x.count(7), 0);
        due("the fraction is none of it", x.part(0), above);
        due("status is none of it", x.status(0), bad);
    }

    private static void status() {
        promise = 33;
        LastMatches x = new LastMatches();
        due("status(3)", x.status(3), -1);
        due("status(-1)", x.status(-1), -1);
        due("bad", x.status(0), 2);
        x.undo();
        x.whose(-1);
        x.laid(1, 0);
        x.order(0, 0);
        x.feed(0, 0, 0, 0, 0);
        x.stumps(9);
        x.winds(0, 0, 0, 0);
        due("-10 is bad, too", x.status(0), 8);
        x.whose(0);
        x.order(1, 0);
        x.feed(1, 1, 1, 1, 5);
        due("-5 is none", x.status(0), 8);
        due("no", x.status(1), 1);
        for (int i = 0; i < 6; i++) {
            x.stump(0);
        }
        due("full", x.status(2), 1);
    }

    private static void count() {
        promise = 34;
        String text = "match 0 9 5; match 0 9 5; match 0 9 5; stick 1 0; stick 1 0; stump 1;";
        LastMatches x = told(text);
        x.ready();
        x.strike(false, false);
        x.strike(true, true);
        int[] want = {3, 2, 1, 1, 2, 1, 3, text.length(), 1};
        for (int what = 0; what <= 8; what++) {
            due("count(" + what + ")", x.count(what), want[what]);
        }
        due("9", x.count(9), -2);
        due("-1", x.count(-1), -2);
    }

    private static void digest() {
        promise = 35;
        String text = "wind 3; shelter 4; wet 2; end 9; carry 1 8; match 2 6 5; match 1 9 7; "
            + "stick 3 0; stick 5 1; stump 7; stump 0;";
        LastMatches x = told(text);
        x.ready();
        x.strike(true, true);
        x.chance(0, 0);
        long[] v = {2, 1, 1, 1, 2, 2, 2, text.length(), 1, 3, 4, 2, 9, 2, 8, 4, 5, 6, 7, 2, 6, 5, 1, 9, 7, 3, 0, 5, 1, 7, 0, 2, 5};
        long h = 881;
        for (long each : v) {
            h = 31 * h + each;
        }
        due("digest", x.digest(), h);
        due("changes nothing", x.digest(), h);
        long e = 881;
        for (long each : new long[] {0, 0, 0, 0, 0, 0, 0, 0, 0, 2, 0, 1, 6, 2, 3, 4, 5, 6, 7, 0, 1}) {
            e = 31 * e + each;
        }
        due("of a new object", new LastMatches().digest(), e);
    }
}
