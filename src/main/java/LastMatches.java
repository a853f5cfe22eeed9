/** Three matches left: when to strike them, and what a fire needs; README.md says how it is used. */
public final class LastMatches {
    public static final int NONE = -1, BAD = -2, NO = -3, FULL = -4;

    // Every chance is a whole number out of this one: seven tries by hundredths still divide it exactly.
    private static final long WHOLE = 100_000_000_000_000L;

    private static final int NOT_SO_MANY = -5, BAD_AS_TEN = -10;
    private static final int MATCHES_MOST = 6, STICKS_MOST = 7, STUMPS_MOST = 5, READY_MOST = 5;
    private static final int PAST_MOST = 8, TEXT_MOST = 150, IMAGES = 2;
    private static final int WIND = 0, SHELTER = 1, WET = 2, END = 3;
    private static final int[] GROUND_FIRST = {2, 0, 1, 6};
    private static final int[] GROUND_MOST = {9, 9, 3, 12};

    private final Clearing now;
    private final Clearing draft;
    private final Clearing[] images;
    private final boolean[] kept;
    private final Odds odds;
    private final Wood wood;
    private final Ashes ashes;
    private final Reading reading;
    private long above;
    private long below;
    private int badCalls;
    private int noCalls;
    private int fullCalls;

    public LastMatches() {
        Plain[] kinds = {new Plain(), new Damp(), new Storm(), new Tarred(), new Half(), new Split()};
        now = new Clearing(kinds);
        draft = new Clearing(kinds);
        images = new Clearing[] {new Clearing(kinds), new Clearing(kinds)};
        kept = new boolean[IMAGES];
        odds = new Odds();
        wood = new Wood();
        ashes = new Ashes();
        reading = new Reading();
        above = 0;
        below = 1;
    }

    // ---- a clearing

    public int clearing(int what, int n) {
        return counted(now.setGround(what, n));
    }

    public int carry(int r, int n) {
        return counted(now.setCarry(r, n));
    }

    public int match(int kind, int head, int length) {
        return counted(now.addMatch(kind, head, length));
    }

    public int stick(int thick, int beneath) {
        return counted(now.addStick(thick, beneath));
    }

    public int stump(int n) {
        return counted(now.addStump(n));
    }

    public int clean(int what) {
        return counted(now.sweep(what));
    }

    public int type(int c) {
        return counted(reading.append(c));
    }

    public int clear() {
        return reading.empty();
    }

    public int read() {
        draft.startAnew();
        int answer = reading.readInto(draft);
        if (answer >= 0) {
            now.copyFrom(draft);
        }
        return answer;
    }

    // ---- tries

    public int strike(boolean lit, boolean fire) {
        return counted(now.tryNext(lit, fire));
    }

    public int ready() {
        return counted(now.getReady());
    }

    public int undo() {
        return counted(now.stepBack());
    }

    public int of(int match, int what) {
        if (!now.hasMatch(match)) {
            return counted(BAD);
        }
        switch (what) {
            case 0: return at(now.kind, match);
            case 1: return at(now.head, match);
            case 2: return now.lightsNow(match);
            case 3: return now.burns(match);
            default: return counted(BAD);
        }
    }

    // ---- how likely

    public int chance(int match, int what) {
        if (!now.hasMatch(match) || what < 0 || what > 1) {
            return counted(BAD);
        }
        if (what == 0) {
            setFraction(WHOLE / 10 * now.lightsNow(match));
        } else {
            setFraction(WHOLE / 100 * now.lightsNow(match) * now.carryAt(now.ready));
        }
        return 1;
    }

    public int best() {
        setFraction(odds.bestChance(now));
        return odds.bestDeed;
    }

    public int rule(int k) {
        if (k < 0 || k > READY_MOST) {
            return counted(BAD);
        }
        setFraction(Odds.ruleChance(now, k));
        return 1;
    }

    public int bestRule() {
        return Odds.likeliestRule(now);
    }

    public int split() {
        return now.left() < 1 ? counted(NO) : Odds.compareHalves(now);
    }

    public int both() {
        return now.left() < 2 ? counted(NO) : Odds.comparePair(now);
    }

    public int candle(int n) {
        if (n < 1 || n > 6) {
            return counted(BAD);
        }
        if (now.left() < 1) {
            return counted(NO);
        }
        setFraction(Odds.candleChance(now, n));
        return 1;
    }

    public int waits(int m, int g, int c) {
        if (m < 0 || m > 5 || g < 0 || g > 10 || c < 0 || c > 10) {
            return counted(BAD);
        }
        return compare(Odds.sunChance(m, g, c), odds.bestChance(now));
    }

    public int whose(int i) {
        if (i < 0) {
            return countedTen();
        }
        setFraction(odds.bestTurns(now));
        return i < now.left() ? at(odds.bestRow, i) : NOT_SO_MANY;
    }

    // ---- sticks, logs

    public int laid(int lit, int stick) {
        if (!now.areSticks(lit) || stick < NONE || stick >= now.sticks) {
            return countedTen();
        }
        wood.burnDown(now, lit);
        return stick == NONE ? wood.reached(now) : at(wood.minutes, stick);
    }

    public int order(int n, int i) {
        if (n < 1 || n > 9 || i < NONE) {
            return countedTen();
        }
        wood.arrange(now, n);
        if (i == NONE) {
            return wood.longest;
        }
        return i < now.sticks ? at(wood.bestRow, i) : NOT_SO_MANY;
    }

    public int feed(int f, int e, int b, int t, int i) {
        boolean good = f >= 0 && f <= 99 && e >= 1 && e <= 9 && b >= 1 && b <= 99;
        if (!good || t < 0 || t > 99 || i < NONE) {
            return countedTen();
        }
        return Wood.gettingUp(f, e, b, t, i);
    }

    // ---- stumps

    public int stumps(int what) {
        if (what < 0 || what > 1) {
            return countedTen();
        }
        return what == 0 ? ashes.rows(now) : ashes.firstOfRows(now);
    }

    public int winds(int match, int t, int k, int j) {
        boolean good = now.hasMatch(match) && t >= 0 && t <= 12 && k >= 0 && k <= 18;
        if (!good || j < 0 || j > k) {
            return countedTen();
        }
        return Ashes.likeliestWind(now, match, t, k, j);
    }

    public int evenings(int n, int seed) {
        if (n < 0 || n > 60 || seed < 0 || seed > 999999) {
            return counted(BAD);
        }
        return Ashes.eveningsByFire(now, n, seed);
    }

    // ---- what there is

    public long part(int what) {
        switch (what) {
            case 0: return above;
            case 1: return below;
            default: return counted(BAD);
        }
    }

    public int image(int i) {
        if (!isImage(i)) {
            return counted(BAD);
        }
        images[i].copyFrom(now);
        kept[i] = true;
        return 1;
    }

    public int from(int i) {
        if (!isImage(i)) {
            return counted(BAD);
        }
        if (!kept[i]) {
            return counted(NO);
        }
        now.copyFrom(images[i]);
        return 1;
    }

    public int status(int what) {
        switch (what) {
            case 0: return badCalls;
            case 1: return noCalls;
            case 2: return fullCalls;
            default:
                badCalls++;
                return -1;
        }
    }

    public int count(int what) {
        if (what < 0 || what > 8) {
            return counted(BAD);
        }
        return what == 7 ? reading.length : now.amount(what);
    }

    public long digest() {
        long h = 881;
        for (int what = 0; what <= 8; what++) {
            h = 31 * h + (what == 7 ? reading.length : now.amount(what));
        }
        h = now.digestOn(h);
        h = 31 * h + above;
        return 31 * h + below;
    }

    // ---- what the calls share

    private int counted(int answer) {
        if (answer == BAD) {
            badCalls++;
        } else if (answer == NO) {
            noCalls++;
        } else if (answer == FULL) {
            fullCalls++;
        }
        return answer;
    }

    private int countedTen() {
        badCalls++;
        return BAD_AS_TEN;
    }

    private boolean isImage(int i) {
        return i >= 0 && i < images.length && i < kept.length && images[i] != null;
    }

    private void setFraction(long ofWhole) {
        long shared = greatestShared(ofWhole, WHOLE);
        if (shared > 0) {
            above = ofWhole / shared;
            below = WHOLE / shared;
        }
    }

    private static long greatestShared(long a, long b) {
        long x = a;
        long y = b;
        // Euclid needs some 70 steps at most for numbers of this size.
        for (int step = 0; step < 200 && y != 0; step++) {
            long rest = x % y;
            x = y;
            y = rest;
        }
        return x;
    }

    private static int compare(long a, long b) {
        if (a == b) {
            return 0;
        }
        return a > b ? 1 : -1;
    }

    /** Looks at the index, so that no row can be read beside its ends. */
    private static int at(int[] row, int i) {
        return i >= 0 && i < row.length ? row[i] : 0;
    }

    private static void put(int[] row, int i, int value) {
        if (i >= 0 && i < row.length) {
            row[i] = value;
        }
    }

    private static void copyRow(int[] source, int[] target) {
        System.arraycopy(source, 0, target, 0, Math.min(source.length, target.length));
    }

    private static boolean isIn(int bits, int i) {
        return (bits >> i & 1) == 1;
    }

    // ---- kinds of matches, each under the one that it changes

    private static class Plain {
        Plain() {
        }

        int lightsBy(int head, int gust, int wetness) {
            int lights = head - gust - wetness;
            return lights > 0 ? lights : 0;
        }

        int burnsBy(int length) {
            return length;
        }
    }

    private static final class Damp extends Plain {
        Damp() {
        }

        int lightsBy(int head, int gust, int wetness) {
            return Math.max(0, super.lightsBy(head, gust, wetness) - 2);
        }
    }

    private static class Storm extends Plain {
        Storm() {
        }

        int lightsBy(int head, int gust, int wetness) {
            return super.lightsBy(head, 0, wetness);
        }

        int burnsBy(int length) {
            return Math.max(1, super.burnsBy(length) - 1);
        }
    }

    private static final class Tarred extends Storm {
        Tarred() {
        }

        int burnsBy(int length) {
            return 2 * super.burnsBy(length);
        }
    }

    private static class Half extends Plain {
        Half() {
        }

        int lightsBy(int head, int gust, int wetness) {
            return super.lightsBy(head, gust, wetness) / 2;
        }

        int burnsBy(int length) {
            return (super.burnsBy(length) + 1) / 2;
        }
    }

    private static final class Split extends Half {
        Split() {
        }

        int lightsBy(int head, int gust, int wetness) {
            int half = super.lightsBy(head, gust, wetness);
            return half > 0 ? half + 1 : 0;
        }
    }

    // ---- what an image keeps

    private static final class Clearing {
        private static final int PAST_NUMBERS = 4;

        final Plain[] kinds;
        final int[] ground = new int[4];
        final int[] carries = new int[READY_MOST + 1];
        final int[] kind = new int[MATCHES_MOST];
        final int[] head = new int[MATCHES_MOST];
        final int[] length = new int[MATCHES_MOST];
        int matches;
        final int[] thick = new int[STICKS_MOST];
        final int[] beneath = new int[STICKS_MOST];
        int sticks;
        final int[] stumpRow = new int[STUMPS_MOST];
        int stumpCount;
        int ready;
        int minute;
        int next;
        boolean fire;
        // READY, MINUTE, next, FIRE of each step that may be undone, the oldest ahead.
        final int[] past = new int[PAST_MOST * PAST_NUMBERS];
        int pastCount;

        Clearing(Plain[] kinds) {
            this.kinds = kinds;
            startAnew();
        }

        void startAnew() {
            copyRow(GROUND_FIRST, ground);
            for (int r = 0; r < carries.length; r++) {
                carries[r] = r + 2;
            }
            matches = 0;
            sticks = 0;
            stumpCount = 0;
            ready = 0;
            minute = 0;
            next = 0;
            fire = false;
            pastCount = 0;
        }

        void copyFrom(Clearing other) {
            copyRow(other.ground, ground);
            copyRow(other.carries, carries);
            copyRow(other.kind, kind);
            copyRow(other.head, head);
            copyRow(other.length, length);
            matches = other.matches;
            copyRow(other.thick, thick);
            copyRow(other.beneath, beneath);
            sticks = other.sticks;
            copyRow(other.stumpRow, stumpRow);
            stumpCount = other.stumpCount;
            ready = other.ready;
            minute = other.minute;
            next = other.next;
            fire = other.fire;
            copyRow(other.past, past);
            pastCount = other.pastCount;
        }

        int setGround(int what, int n) {
            if (what < 0 || what >= ground.length || n < 0 || n > at(GROUND_MOST, what)) {
                return BAD;
            }
            if (what == END && n < minute) {
                return BAD;
            }
            int was = ground[what];
            ground[what] = n;
            return was;
        }

        int setCarry(int r, int n) {
            if (r < 0 || r >= carries.length || n < 0 || n > 10) {
                return BAD;
            }
            int was = carries[r];
            carries[r] = n;
            return was;
        }

        int addMatch(int newKind, int newHead, int newLength) {
            boolean good = newKind >= 0 && newKind < kinds.length && newHead >= 0 && newHead <= 10;
            if (!good || newLength < 1 || newLength > 9) {
                return BAD;
            }
            if (matches >= MATCHES_MOST) {
                return FULL;
            }
            put(kind, matches, newKind);
            put(head, matches, newHead);
            put(length, matches, newLength);
            return matches++;
        }

        int addStick(int newThick, int newBeneath) {
            if (newThick < 1 || newThick > 9 || !areSticks(newBeneath)) {
                return BAD;
            }
            if (sticks >= STICKS_MOST) {
                return FULL;
            }
            put(thick, sticks, newThick);
            put(beneath, sticks, newBeneath);
            return sticks++;
        }

        int addStump(int n) {
            if (n < 0 || n > 18) {
                return BAD;
            }
            if (stumpCount >= STUMPS_MOST) {
                return FULL;
            }
            put(stumpRow, stumpCount, n);
            return ++stumpCount;
        }

        int sweep(int what) {
            int were;
            switch (what) {
                case 0:
                    were = sticks;
                    sticks = 0;
                    return were;
                case 1:
                    were = stumpCount;
                    stumpCount = 0;
                    return were;
                default:
                    return BAD;
            }
        }

        int tryNext(boolean lit, boolean makesFire) {
            if (makesFire && !lit) {
                return BAD;
            }
            if (fire || left() < 1) {
                return NO;
            }
            remember();
            fire = makesFire;
            return next++;
        }

        int getReady() {
            if (fire || minutesLeft() < 1) {
                return NO;
            }
            remember();
            ready = Math.min(READY_MOST, ready + 1);
            minute++;
            return ready;
        }

        private void remember() {
            if (pastCount >= PAST_MOST) {
                System.arraycopy(past, PAST_NUMBERS, past, 0, past.length - PAST_NUMBERS);
                pastCount = PAST_MOST - 1;
            }
            int place = pastCount * PAST_NUMBERS;
            put(past, place, ready);
            put(past, place + 1, minute);
            put(past, place + 2, next);
            put(past, place + 3, fire ? 1 : 0);
            pastCount++;
        }

        int stepBack() {
            if (pastCount < 1) {
                return NO;
            }
            pastCount--;
            int place = pastCount * PAST_NUMBERS;
            ready = at(past, place);
            minute = at(past, place + 1);
            next = at(past, place + 2);
            fire = at(past, place + 3) == 1;
            return 1;
        }

        boolean hasMatch(int match) {
            return match >= 0 && match < matches;
        }

        boolean areSticks(int bits) {
            return bits >= 0 && bits < 1 << sticks;
        }

        int left() {
            return matches - next;
        }

        int minutesLeft() {
            return at(ground, END) - minute;
        }

        int carryAt(int byReady) {
            return at(carries, byReady);
        }

        int wind() {
            return at(ground, WIND);
        }

        int lightsNow(int match) {
            return lightsIn(match, minute, wind());
        }

        int lightsIn(int match, int inMinute, int byWind) {
            Plain how = kindOf(match);
            if (how == null) {
                return 0;
            }
            int gust = Math.max(0, byWind - at(ground, SHELTER));
            return how.lightsBy(at(head, match), gust, at(ground, WET) * inMinute);
        }

        int burns(int match) {
            Plain how = kindOf(match);
            return how == null ? 0 : how.burnsBy(at(length, match));
        }

        private Plain kindOf(int match) {
            int number = at(kind, match);
            return number >= 0 && number < kinds.length ? kinds[number] : null;
        }

        int amount(int what) {
            switch (what) {
                case 0: return matches;
                case 1: return next;
                case 2: return ready;
                case 3: return minute;
                case 4: return sticks;
                case 5: return stumpCount;
                case 6: return pastCount;
                case 8: return fire ? 1 : 0;
                default: return 0;
            }
        }

        long digestOn(long start) {
            long h = digestRow(digestRow(start, ground, ground.length), carries, carries.length);
            for (int m = 0; m < matches; m++) {
                h = 31 * h + at(kind, m);
                h = 31 * h + at(head, m);
                h = 31 * h + at(length, m);
            }
            for (int s = 0; s < sticks; s++) {
                h = 31 * h + at(thick, s);
                h = 31 * h + at(beneath, s);
            }
            return digestRow(h, stumpRow, stumpCount);
        }

        private static long digestRow(long start, int[] row, int many) {
            long h = start;
            for (int i = 0; i < many; i++) {
                h = 31 * h + at(row, i);
            }
            return h;
        }
    }

    // ---- chances, out of WHOLE, as if there were no fire

    private static final class Odds {
        private static final int STRIKE = 1, GET_READY = 2;

        final int[] bestRow = new int[MATCHES_MOST];
        int bestDeed;
        private final int[] row = new int[MATCHES_MOST];
        private long leastFail;
        // The chance by the matches from one on, by how often one got ready till then (END is 12 at most).
        private final long[] chances = new long[13];

        Odds() {
        }

        /** How likely all the matches from one on fail, struck one behind the other in one minute. */
        private static long allFail(Clearing c, int first, int minute, int ready) {
            int carry = c.carryAt(ready);
            long fail = WHOLE;
            for (int m = first; m < c.matches; m++) {
                fail = fail / 100 * (100 - c.lightsIn(m, minute, c.wind()) * carry);
            }
            return fail;
        }

        private static long othersFail(Clearing c, int behind) {
            return allFail(c, c.next + behind, c.minute, c.ready);
        }

        static long ruleChance(Clearing c, int k) {
            int wanted = Math.max(0, k - c.ready);
            int got = Math.max(0, Math.min(wanted, c.minutesLeft()));
            return WHOLE - allFail(c, c.next, c.minute + got, c.ready + got);
        }

        static int likeliestRule(Clearing c) {
            int likeliest = 0;
            long most = -1;
            for (int k = 0; k <= READY_MOST; k++) {
                long chance = ruleChance(c, k);
                if (chance > most) {
                    most = chance;
                    likeliest = k;
                }
            }
            return likeliest;
        }

        long bestChance(Clearing c) {
            int minutes = Math.max(0, Math.min(c.minutesLeft(), chances.length - 1));
            for (int got = 0; got <= minutes; got++) {
                setChance(got, 0);
            }
            bestDeed = 0;
            for (int m = c.matches - 1; m >= c.next; m--) {
                for (int got = minutes; got >= 0; got--) {
                    chooseDeed(c, m, got, got < minutes);
                }
            }
            return chanceAt(0);
        }

        /** The chance of the match behind stands in its place until that of this match takes it. */
        private void chooseDeed(Clearing c, int match, int got, boolean maySpare) {
            int carry = c.carryAt(Math.min(READY_MOST, c.ready + got));
            long fires = c.lightsIn(match, c.minute + got, c.wind()) * carry;
            long struck = (fires * WHOLE + (100 - fires) * chanceAt(got)) / 100;
            long spared = maySpare ? chanceAt(got + 1) : 0;
            bestDeed = spared > struck ? GET_READY : STRIKE;
            setChance(got, Math.max(struck, spared));
        }

        private long chanceAt(int got) {
            return got >= 0 && got < chances.length ? chances[got] : 0;
        }

        private void setChance(int got, long chance) {
            if (got >= 0 && got < chances.length) {
                chances[got] = chance;
            }
        }

        static int compareHalves(Clearing c) {
            int carry = c.carryAt(c.ready);
            int lights = c.lightsNow(c.next);
            long others = othersFail(c, 1);
            long wholeFails = others / 100 * (100 - lights * carry);
            int halfMisses = 100 - lights / 2 * carry;
            long halvesFail = others / 100 * halfMisses / 100 * halfMisses;
            return compare(wholeFails, halvesFail);
        }

        static int comparePair(Clearing c) {
            int bothDark = (10 - c.lightsNow(c.next)) * (10 - c.lightsNow(c.next + 1));
            int pairMisses = 1000 - (100 - bothDark) * c.carryAt(c.ready);
            long pairFails = othersFail(c, 2) / 1000 * pairMisses;
            return compare(othersFail(c, 0), pairFails);
        }

        static long candleChance(Clearing c, int tries) {
            int misses = 10 - c.carryAt(c.ready);
            long triesFail = WHOLE;
            for (int t = 0; t < tries; t++) {
                triesFail = triesFail / 10 * misses;
            }
            int lights = c.lightsNow(c.next);
            return (lights * (WHOLE - triesFail) + (10 - lights) * (WHOLE - othersFail(c, 1))) / 10;
        }

        static long sunChance(int hours, int glass, int cold) {
            long chance = WHOLE / 10 * glass;
            for (int hour = 0; hour < hours; hour++) {
                chance = chance / 10 * cold;
            }
            return chance;
        }

        long bestTurns(Clearing c) {
            leastFail = WHOLE + 1;
            takeTurns(c, 0, 0, WHOLE);
            return WHOLE - leastFail;
        }

        /** Rows come in their order, so the first of like ones stays. */
        private void takeTurns(Clearing c, int turn, int used, long fail) {
            if (turn >= c.left()) {
                if (fail < leastFail) {
                    leastFail = fail;
                    copyRow(row, bestRow);
                }
                return;
            }
            int carry = c.carryAt(c.ready);
            for (int m = c.next; m < c.matches; m++) {
                if (!isIn(used, m)) {
                    put(row, turn, m);
                    int misses = 100 - c.lightsIn(m, c.minute + turn, c.wind()) * carry;
                    takeTurns(c, turn + 1, used | 1 << m, fail / 100 * misses);
                }
            }
        }
    }

    // ---- sticks and logs

    private static final class Wood {
        final int[] minutes = new int[STICKS_MOST];
        final int[] bestRow = new int[STICKS_MOST];
        int longest;
        private final int[] row = new int[STICKS_MOST];

        Wood() {
        }

        void burnDown(Clearing c, int lit) {
            for (int s = 0; s < c.sticks; s++) {
                put(minutes, s, isIn(lit, s) ? 0 : NONE);
            }
            // Some stick has to burn for one to light, so all is over when each has burnt 9 minutes.
            for (int minute = 1; minute <= 9 * STICKS_MOST; minute++) {
                for (int s = 0; s < c.sticks; s++) {
                    if (at(minutes, s) == NONE && heat(c, s, minute) >= at(c.thick, s)) {
                        put(minutes, s, minute);
                    }
                }
            }
        }

        private int heat(Clearing c, int stick, int minute) {
            int heat = 0;
            for (int s = 0; s < stick; s++) {
                if (isIn(at(c.beneath, stick), s) && burnsIn(c, s, minute)) {
                    heat += at(c.thick, s);
                }
            }
            return heat;
        }

        private boolean burnsIn(Clearing c, int stick, int minute) {
            int lit = at(minutes, stick);
            return lit != NONE && minute > lit && minute <= lit + at(c.thick, stick);
        }

        int reached(Clearing c) {
            int bits = 0;
            for (int s = 0; s < c.sticks; s++) {
                if (at(minutes, s) != NONE) {
                    bits |= 1 << s;
                }
            }
            return bits;
        }

        void arrange(Clearing c, int n) {
            longest = 0;
            // A flame of n lights the first stick as a stick of n less 2 more would.
            lengthen(c, 0, 0, n - 2);
            fillUp(c);
        }

        /** Rows come in their order, so the first of like ones stays; a row that lights all ends the search. */
        private void lengthen(Clearing c, int lit, int used, int flame) {
            if (lit > longest) {
                longest = lit;
                copyRow(row, bestRow);
            }
            for (int s = 0; s < c.sticks && lit < c.sticks && longest < c.sticks; s++) {
                if (!isIn(used, s) && flame >= at(c.thick, s) - 2) {
                    put(row, lit, s);
                    lengthen(c, lit + 1, used | 1 << s, at(c.thick, s));
                }
            }
        }

        /** Behind the lit ones stand the others by their numbers. */
        private void fillUp(Clearing c) {
            int used = 0;
            for (int i = 0; i < longest; i++) {
                used |= 1 << at(bestRow, i);
            }
            int place = longest;
            for (int s = 0; s < c.sticks; s++) {
                if (!isIn(used, s)) {
                    put(bestRow, place, s);
                    place++;
                }
            }
        }

        static int gettingUp(int f, int e, int b, int t, int i) {
            int logs = Math.min(f, b);
            int ups = 0;
            for (int hour = 0; hour < t; hour++) {
                if (logs == 0) {
                    if (ups == i) {
                        return hour;
                    }
                    ups++;
                    logs = b;
                }
                logs = Math.max(0, logs - e);
            }
            return i == NONE ? ups : NOT_SO_MANY;
        }
    }

    // ---- what is read from stumps, tries and seeds

    private static final class Ashes {
        Ashes() {
        }

        int rows(Clearing c) {
            return rowsFrom(c, 0, 0);
        }

        private int rowsFrom(Clearing c, int stump, int used) {
            if (stump >= c.stumpCount) {
                return 1;
            }
            int many = 0;
            for (int m = 0; m < c.matches; m++) {
                if (!isIn(used, m) && c.burns(m) == at(c.stumpRow, stump)) {
                    many += rowsFrom(c, stump + 1, used | 1 << m);
                }
            }
            return many;
        }

        int firstOfRows(Clearing c) {
            if (c.stumpCount < 1) {
                return NONE;
            }
            for (int m = 0; m < c.matches; m++) {
                if (c.burns(m) == at(c.stumpRow, 0) && rowsFrom(c, 1, 1 << m) > 0) {
                    return m;
                }
            }
            return NONE;
        }

        static int likeliestWind(Clearing c, int match, int t, int k, int j) {
            int likeliest = NONE;
            long most = 0;
            for (int wind = 0; wind <= at(GROUND_MOST, WIND); wind++) {
                int lights = c.lightsIn(match, t, wind);
                long likely = power(lights, j) * power(10 - lights, k - j);
                if (likely > most) {
                    most = likely;
                    likeliest = wind;
                }
            }
            return likeliest;
        }

        private static long power(int base, int times) {
            long product = 1;
            for (int i = 0; i < times; i++) {
                product *= base;
            }
            return product;
        }

        static int eveningsByFire(Clearing c, int n, int seed) {
            int carry = c.carryAt(c.ready);
            long x = seed;
            int fires = 0;
            for (int evening = 0; evening < n; evening++) {
                boolean fire = false;
                for (int m = c.next; m < c.matches && !fire; m++) {
                    x = (x * 1103515245L + 12345L) % 2147483648L;
                    fire = x / 65536 % 100 < c.lightsNow(m) * carry;
                }
                if (fire) {
                    fires++;
                }
            }
            return fires;
        }
    }

    // ---- the text

    private static final class Reading {
        private static final int WRONG = 0, WORD = 1, NUMBER = 2, SEMICOLON = 3, OVER = 4;
        private static final int CARRY = 4, MATCH = 5, STICK = 6, STUMP = 7, WORDS = 8;
        private static final int[] NUMBERS_WANTED = {1, 1, 1, 1, 2, 3, 2, 1};
        private static final int FAULT_FROM = -10, REFUSED_FROM = -1000;

        int length;
        private final int[] bytes = new int[TEXT_MOST];
        private final int[] numbers = new int[3];
        private int place;
        // The token that was read last: its sort, its first byte's place, its number.
        private int token;
        private int start;
        private int value;

        Reading() {
        }

        int append(int c) {
            if (c < 0 || c > 127) {
                return BAD;
            }
            if (length >= TEXT_MOST) {
                return FULL;
            }
            put(bytes, length, c);
            return ++length;
        }

        int empty() {
            int had = length;
            length = 0;
            return had;
        }

        /** A fault further on weighs more than an item that is refused, so the text is read to its end. */
        int readInto(Clearing c) {
            place = 0;
            int items = 0;
            int refused = NONE;
            takeToken();
            for (int round = 0; round < TEXT_MOST && token != OVER; round++) {
                int word = token == WORD ? wordNumber() : NONE;
                if (word == NONE || !takeNumbers(at(NUMBERS_WANTED, word)) || token != SEMICOLON) {
                    return FAULT_FROM - start;
                }
                if (refused == NONE && tell(c, word) < 0) {
                    refused = items;
                }
                items++;
                takeToken();
            }
            return refused == NONE ? items : REFUSED_FROM - refused;
        }

        /** Leaves the token behind the numbers, or the one that stands where a number is due. */
        private boolean takeNumbers(int wanted) {
            takeToken();
            for (int i = 0; i < wanted; i++) {
                if (token != NUMBER) {
                    return false;
                }
                put(numbers, i, value);
                takeToken();
            }
            return true;
        }

        private int tell(Clearing c, int word) {
            int first = at(numbers, 0);
            switch (word) {
                case CARRY: return c.setCarry(first, at(numbers, 1));
                case MATCH: return c.addMatch(first, at(numbers, 1), at(numbers, 2));
                case STICK: return c.addStick(first, at(numbers, 1));
                case STUMP: return c.addStump(first);
                default: return c.setGround(word, first);
            }
        }

        private void takeToken() {
            while (place < length && at(bytes, place) == ' ') {
                place++;
            }
            start = place;
            if (place >= length) {
                token = OVER;
            } else if (isLetter(at(bytes, place))) {
                takeWord();
            } else if (isFigure(at(bytes, place))) {
                takeNumber();
            } else {
                token = at(bytes, place) == ';' ? SEMICOLON : WRONG;
                place++;
            }
        }

        private void takeWord() {
            token = WORD;
            while (place < length && isLetter(at(bytes, place))) {
                place++;
            }
        }

        /** Figures that stand together are one token; a fourth one makes it wrong. */
        private void takeNumber() {
            value = 0;
            while (place < length && isFigure(at(bytes, place))) {
                if (place < start + 3) {
                    value = 10 * value + at(bytes, place) - '0';
                }
                place++;
            }
            token = place <= start + 3 ? NUMBER : WRONG;
        }

        private int wordNumber() {
            for (int word = 0; word < WORDS; word++) {
                if (spells(nameOf(word))) {
                    return word;
                }
            }
            return NONE;
        }

        private boolean spells(String name) {
            if (place - start != name.length()) {
                return false;
            }
            for (int i = 0; i < name.length(); i++) {
                if (at(bytes, start + i) != name.charAt(i)) {
                    return false;
                }
            }
            return true;
        }

        private static String nameOf(int word) {
            switch (word) {
                case WIND: return "wind";
                case SHELTER: return "shelter";
                case WET: return "wet";
                case END: return "end";
                case CARRY: return "carry";
                case MATCH: return "match";
                case STICK: return "stick";
                case STUMP: return "stump";
                default: return "";
            }
        }

        private static boolean isLetter(int c) {
            return c >= 'a' && c <= 'z';
        }

        private static boolean isFigure(int c) {
            return c >= '0' && c <= '9';
        }
    }
}
