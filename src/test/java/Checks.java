/** Counts the answers that are not as due; a test ends with exit code 1 if there was one. */
final class Checks {
    static final int[] FAR_OFF = {Integer.MIN_VALUE, Integer.MIN_VALUE + 1, -9, -1, Integer.MAX_VALUE};

    // What set() knows: SHARE, LIMIT, FEW, whether TORN ones are asked for, PATIENCE, LATE.
    static final int[] FIRST = {3, 1000, 2, 1, 5, 3};
    static final int[] LEAST = {1, 1, 0, 0, 1, 0};
    static final int[] GREATEST = {9, 8000, 9, 1, 20, 20};

    private int wrong = 0;

    void due(String call, long got, long want) {
        if (got != want) {
            wrong++;
            System.out.println(call + " answered " + got + ", due is " + want);
        }
    }

    /** Says so by exit code, because that is what .ci/run looks at. */
    void end() {
        if (wrong != 0) {
            System.out.println(wrong + " answers are not as due");
            System.exit(1);
        }
    }

    /**
     * What an object tells of itself, to see that a refused call changed nothing. Of NUMBERS only
     * 0 .. 19, because nothing is promised of an object after its 512th call.
     */
    static String all(CallKeepers x) {
        StringBuilder told = new StringBuilder();
        for (int what = 0; what <= 12; what++) {
            told.append(" c").append(x.count(what));
        }
        for (int number = 0; number <= 19; number++) {
            told.append(" n").append(x.home(number)).append(' ').append(x.remembered(number));
            boolean waits = x.waits(number, 0) != CallKeepers.NONE;
            for (int what = 0; waits && what <= 5; what++) {
                told.append(" w").append(x.waits(number, what));
            }
        }
        int kept = x.count(2);
        for (int i = 0; i < kept; i++) {
            for (int what = 0; what <= 6; what++) {
                told.append(" k").append(x.kept(i, what));
            }
        }
        for (int shape = 0; shape <= 4; shape++) {
            for (int what = 0; what <= 6; what++) {
                told.append(" s").append(x.shape(shape, what));
            }
        }
        for (int j = 0; j <= 13; j++) {
            told.append(" j").append(x.step(j));
        }
        return told.append(" t").append(x.trace()).toString();
    }

    void unchanged(String call, String before, CallKeepers x) {
        due(call + " changed something", before.equals(all(x)) ? 0 : 1, 0);
    }

    /** A call of one piece, whole at once. */
    void whole(CallKeepers x, int number, int shape, int length) {
        due("whole call " + number, x.piece(number, 0, true, shape, length), CallKeepers.WHOLE);
    }

    /** A piece that stays alone for now. */
    void lone(CallKeepers x, int number, int piece, int shape, int length) {
        due("piece " + piece + " of " + number, x.piece(number, piece, false, shape, length), CallKeepers.TAKEN_IN);
    }
}
