/**
 * Keepers hear the pieces of calls until a call is whole or too late, and keep the rare, the long
 * and a fair share of the rest, with weights by which counts are still right.
 */
public final class CallKeepers {
    public static final int BAD = -1, STATE = -2, FULL = -3, NONE = -9;
    public static final int TAKEN_IN = 1, WHOLE = 2, TWICE = 3, ODD = 4, LATER = 5, DROPPED = 6, MISSED = 7;

    private static final int KEEPERS = 4, NUMBERS = 100, PIECES = 8, SHAPES = 5, STEPS = 14;
    private static final int LONGEST_PIECE = 1000, MOST_TICKS = 60, GREATEST_B = 1000;
    private static final int MOST_WAITING = 24, MOST_KEPT = 20, MEMORY_TICKS = 50;
    private static final int WAITS_ASPECTS = 6, KEPT_ASPECTS = 7;

    // The places in settings are the numbers by which set() names them.
    private static final int SHARE = 0, LIMIT = 1, FEW = 2, ASKS_TORN = 3, PATIENCE = 4, LATE = 5;
    private static final int SETTINGS = 6;
    private static final int[] FIRST_SETTINGS = {3, 1000, 2, 1, 5, 3};
    private static final int[] LEAST_SETTINGS = {1, 1, 0, 0, 1, 0};
    private static final int[] GREATEST_SETTINGS = {9, 8000, 9, 1, 20, 20};

    // The places in a shape's tally are the numbers by which shape() names them.
    private static final int ALL = 0, IN_ROW = 1, TAKEN = 2, FELL = 3, OUT = 4, IN_FAIR = 5, LEFT = 6;
    private static final int TALLIES = 7;

    // The places in counts are the numbers by which count() names them.
    private static final int NOW = 0, WAITING_NOW = 1, KEPT_NOW = 2, LOST_EVER = 3, MOVED_EVER = 4;
    private static final int TWICE_EVER = 5, ODD_EVER = 6, LATER_EVER = 7, DROPPED_EVER = 8, MISSED_EVER = 9;
    private static final int DECIDED_EVER = 10, TORN_EVER = 11, UP_NOW = 12;
    private static final int COUNTS = 13;

    private static final int FAIR_MARK = 1, LONG_MARK = 10, RARE_MARK = 100, TORN_MARK = 1000;

    private final boolean[] isUp = new boolean[KEEPERS];
    private final int[] settings = FIRST_SETTINGS.clone();
    private final int[] counts = new int[COUNTS];
    private final int[][] tallies = new int[SHAPES][TALLIES];
    private final int[] steps = new int[STEPS];
    private final Call[] waiting = new Call[NUMBERS];
    private final Call[] decided = new Call[NUMBERS];
    private final Call[] row = new Call[MOST_KEPT];
    private long marks = 0;

    public CallKeepers() {
        for (int k = 0; k < KEEPERS; k++) {
            isUp[k] = true;
        }
        counts[UP_NOW] = KEEPERS;
    }

    public int keeper(int keeper, boolean up) {
        if (!isBelow(keeper, KEEPERS)) {
            return BAD;
        }
        if (isUp[keeper] == up) {
            return 0;
        }
        isUp[keeper] = up;
        counts[UP_NOW] += up ? 1 : -1;
        if (!up) {
            loseCallsAt(keeper);
        }
        moveCallsHome();
        return 1;
    }

    public int home(int number) {
        return isBelow(number, NUMBERS) ? homeOf(number) : BAD;
    }

    public int set(int what, int v) {
        if (!isBelow(what, SETTINGS) || !isWithin(v, LEAST_SETTINGS[what], GREATEST_SETTINGS[what])) {
            return BAD;
        }
        int old = settings[what];
        if (what == SHARE && v != old) {
            leaveFair();
        }
        settings[what] = v;
        return old;
    }

    public int piece(int number, int piece, boolean last, int shape, int length) {
        if (!isBelow(number, NUMBERS) || !isBelow(piece, PIECES) || !isBelow(shape, SHAPES)
                || !isWithin(length, 1, LONGEST_PIECE)) {
            return BAD;
        }
        int home = homeOf(number);
        if (home == NONE) {
            return counted(MISSED_EVER, MISSED);
        }
        Call heard = waiting[number];
        if (heard != null) {
            return hearWaiting(heard, piece, last, length);
        }
        Call known = recall(number);
        if (known != null) {
            return hearDecided(known, piece, length);
        }
        if (counts[WAITING_NOW] >= MOST_WAITING) {
            return counted(MISSED_EVER, MISSED);
        }
        Call first = new Call(number, shape, home, counts[NOW]);
        waiting[number] = first;
        counts[WAITING_NOW]++;
        return takeIn(first, piece, last, length);
    }

    public int tick(int n) {
        if (!isWithin(n, 1, MOST_TICKS)) {
            return BAD;
        }
        int before = counts[DECIDED_EVER];
        for (int i = 0; i < n; i++) {
            passOneTick();
        }
        return counts[DECIDED_EVER] - before;
    }

    public int waits(int number, int what) {
        if (!isBelow(number, NUMBERS) || !isBelow(what, WAITS_ASPECTS)) {
            return BAD;
        }
        Call call = waiting[number];
        if (call == null) {
            return NONE;
        }
        switch (what) {
            case 0: return call.keeper;
            case 1: return call.pieces;
            case 2: return call.shape;
            case 3: return call.length;
            case 4: return call.last;
            default: return counts[NOW] - call.since;
        }
    }

    public int remembered(int number) {
        if (!isBelow(number, NUMBERS)) {
            return BAD;
        }
        Call call = recall(number);
        if (call == null) {
            return NONE;
        }
        return call.isKept ? 1 : 0;
    }

    public int kept(int i, int what) {
        Call call = keptAt(i);
        if (call == null || !isBelow(what, KEPT_ASPECTS)) {
            return BAD;
        }
        switch (what) {
            case 0: return call.number;
            case 1: return call.pieces;
            case 2: return call.shape;
            case 3: return call.length;
            case 4: return call.weight;
            case 5: return call.isTorn ? 1 : 0;
            default: return call.decidedAt;
        }
    }

    public int take(int i) {
        Call call = keptAt(i);
        if (call == null) {
            return BAD;
        }
        closeRowAt(i);
        call.isKept = false;
        call.isTaken = true;
        tallies[call.shape][IN_ROW] -= call.weight;
        tallies[call.shape][TAKEN] += call.weight;
        return call.number;
    }

    public int shape(int shape, int what) {
        return isBelow(shape, SHAPES) && isBelow(what, TALLIES) ? tallies[shape][what] : BAD;
    }

    public int step(int j) {
        return isBelow(j, STEPS) ? steps[j] : BAD;
    }

    public int bound(int a, int b, int what) {
        if (!isWithin(b, 1, GREATEST_B) || !isWithin(a, 0, b) || !isBelow(what, 2)) {
            return BAD;
        }
        if (counts[DECIDED_EVER] == 0) {
            return NONE;
        }
        int j = stepOfShare(a, b);
        if (what == 1) {
            return 1 << j;
        }
        return j == 0 ? 0 : 1 << (j - 1);
    }

    public int count(int what) {
        return isBelow(what, COUNTS) ? counts[what] : BAD;
    }

    public long trace() {
        return marks;
    }

    private static boolean isBelow(int v, int end) {
        return v >= 0 && v < end;
    }

    private static boolean isWithin(int v, int least, int greatest) {
        return v >= least && v <= greatest;
    }

    private int counted(int place, int outcome) {
        counts[place]++;
        return outcome;
    }

    private int homeOf(int number) {
        int home = NONE;
        int greatest = -1;
        for (int k = 0; k < KEEPERS; k++) {
            int rest = (7 * number + 5 * k) % 11;
            if (isUp[k] && rest > greatest) {
                home = k;
                greatest = rest;
            }
        }
        return home;
    }

    private void loseCallsAt(int keeper) {
        for (int number = 0; number < NUMBERS; number++) {
            Call call = waiting[number];
            if (call != null && call.keeper == keeper) {
                stopWaiting(call);
                counts[LOST_EVER]++;
            }
        }
    }

    private void moveCallsHome() {
        for (int number = 0; number < NUMBERS; number++) {
            Call call = waiting[number];
            if (call == null) {
                continue;
            }
            int home = homeOf(number);
            if (home != call.keeper) {
                call.keeper = home;
                counts[MOVED_EVER]++;
            }
        }
    }

    private void stopWaiting(Call call) {
        waiting[call.number] = null;
        counts[WAITING_NOW]--;
    }

    private void leaveFair() {
        for (int s = 0; s < SHAPES; s++) {
            tallies[s][LEFT] += tallies[s][IN_FAIR];
            tallies[s][IN_FAIR] = 0;
        }
    }

    private int hearWaiting(Call call, int piece, boolean last, int length) {
        if (call.has(piece)) {
            return counted(TWICE_EVER, TWICE);
        }
        if (call.contradicts(piece, last)) {
            return counted(ODD_EVER, ODD);
        }
        return takeIn(call, piece, last, length);
    }

    private int takeIn(Call call, int piece, boolean last, int length) {
        call.add(piece, length);
        if (last) {
            call.last = piece;
        }
        if (!call.isWhole()) {
            return TAKEN_IN;
        }
        decide(call, false);
        return WHOLE;
    }

    private int hearDecided(Call call, int piece, int length) {
        boolean inTime = counts[NOW] - call.decidedAt <= settings[LATE];
        if (!call.isKept || !inTime || call.has(piece)) {
            return counted(DROPPED_EVER, DROPPED);
        }
        call.add(piece, length);
        return counted(LATER_EVER, LATER);
    }

    /** The call of that number that was decided and is not forgotten, or null. */
    private Call recall(int number) {
        Call call = decided[number];
        if (call == null || call.isTaken || counts[NOW] - call.decidedAt >= MEMORY_TICKS) {
            return null;
        }
        return call;
    }

    private void passOneTick() {
        counts[NOW]++;
        for (int number = 0; number < NUMBERS; number++) {
            Call call = waiting[number];
            // PATIENCE may have been shortened while the call waited, so it may be long over.
            if (call != null && counts[NOW] - call.since >= settings[PATIENCE]) {
                decide(call, true);
            }
        }
    }

    private void decide(Call call, boolean torn) {
        stopWaiting(call);
        decided[call.number] = call;
        call.isTorn = torn;
        call.decidedAt = counts[NOW];
        call.weight = torn ? weighTorn(call) : weighRare(call);
        // Counted only now: RARE asks how many were decided before this one.
        tallies[call.shape][ALL]++;
        steps[stepOf(call.length)]++;
        counts[DECIDED_EVER]++;
        if (torn) {
            counts[TORN_EVER]++;
        }
        if (call.weight > 0) {
            keepOrLetFall(call);
        }
    }

    private void keepOrLetFall(Call call) {
        int end = counts[KEPT_NOW];
        if (end >= MOST_KEPT) {
            tallies[call.shape][FELL] += call.weight;
            return;
        }
        row[end] = call;
        counts[KEPT_NOW]++;
        call.isKept = true;
        tallies[call.shape][IN_ROW] += call.weight;
    }

    /** The i-th that is kept, or null if there is none. */
    private Call keptAt(int i) {
        return isBelow(i, MOST_KEPT) ? row[i] : null;
    }

    private void closeRowAt(int i) {
        for (int k = i; k < MOST_KEPT - 1; k++) {
            row[k] = row[k + 1];
        }
        row[MOST_KEPT - 1] = null;
        counts[KEPT_NOW]--;
    }

    private int weighTorn(Call call) {
        marks += TORN_MARK;
        if (settings[ASKS_TORN] == 0) {
            tallies[call.shape][OUT]++;
            return 0;
        }
        return weighRare(call);
    }

    private int weighRare(Call call) {
        marks += RARE_MARK;
        return tallies[call.shape][ALL] < settings[FEW] ? 1 : weighLong(call);
    }

    private int weighLong(Call call) {
        marks += LONG_MARK;
        return call.length >= settings[LIMIT] ? 1 : weighFair(call);
    }

    private int weighFair(Call call) {
        marks += FAIR_MARK;
        int[] tally = tallies[call.shape];
        tally[IN_FAIR]++;
        if (tally[IN_FAIR] < settings[SHARE]) {
            return 0;
        }
        tally[IN_FAIR] = 0;
        return settings[SHARE];
    }

    private static int stepOf(int length) {
        int j = 0;
        while (j < STEPS - 1 && length >= 1 << j) {
            j++;
        }
        return j;
    }

    private int stepOfShare(int a, int b) {
        long due = (long) a * counts[DECIDED_EVER];
        long upTo = steps[0];
        int j = 0;
        while (j < STEPS - 1 && upTo * b < due) {
            j++;
            upTo += steps[j];
        }
        return j;
    }

    /** A call from its first piece on; it stays the same object while it waits and when it is kept. */
    private static final class Call {
        final int number;
        final int shape;
        final int since;
        int keeper;
        int pieces = 0;
        int length = 0;
        int last = NONE;
        int decidedAt = 0;
        int weight = 0;
        boolean isTorn = false;
        boolean isKept = false;
        boolean isTaken = false;

        Call(int number, int shape, int keeper, int since) {
            this.number = number;
            this.shape = shape;
            this.keeper = keeper;
            this.since = since;
        }

        boolean has(int piece) {
            return (pieces & 1 << piece) != 0;
        }

        void add(int piece, int pieceLength) {
            pieces |= 1 << piece;
            length += pieceLength;
        }

        boolean contradicts(int piece, boolean saysLast) {
            boolean beyondLast = last != NONE && piece > last;
            boolean belowOneHeard = saysLast && pieces >> (piece + 1) != 0;
            boolean anotherLast = saysLast && last != NONE && last != piece;
            return beyondLast || belowOneHeard || anotherLast;
        }

        boolean isWhole() {
            if (last == NONE) {
                return false;
            }
            int upToLast = (2 << last) - 1;
            return (pieces & upToLast) == upToLast;
        }
    }
}
