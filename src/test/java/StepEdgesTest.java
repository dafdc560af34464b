/** The edges of STEPS and of THE BOUNDS, each sentence by itself. */
public final class StepEdgesTest {
    public static void main(String[] args) {
        Checks c = new Checks();
        belowTwoToTheStep(c);
        asDecided(c);
        allThatWereDecided(c);
        nothingWasDecided(c);
        shareAtLeast(c);
        ofEachStep(c);
        noneAndAll(c);
        c.end();
    }

    /** A CALL of that LENGTH (1 .. 8000), whole by as few PIECES as it can be. */
    private static void wholeOf(Checks c, CallKeepers x, int number, int length) {
        int last = (length - 1) / 1000;
        for (int piece = 0; piece < last; piece++) {
            c.lone(x, number, piece, 0, 1000);
        }
        c.due("LENGTH " + length, x.piece(number, last, true, 0, length - 1000 * last), CallKeepers.WHOLE);
    }

    // "counted in the least STEP j with LENGTH (as DECIDED) below 2^j"
    private static void belowTwoToTheStep(Checks c) {
        for (int j = 1; j <= 13; j++) {
            oneStep(c, 1 << (j - 1), j);
            oneStep(c, Math.min(8000, (1 << j) - 1), j);
        }
        oneStep(c, 7999, 13);
    }

    private static void oneStep(Checks c, int length, int due) {
        CallKeepers x = new CallKeepers();
        wholeOf(c, x, 1, length);
        for (int j = 0; j <= 13; j++) {
            c.due("LENGTH " + length + ", step " + j, x.step(j), j == due ? 1 : 0);
        }
        c.due("LENGTH " + length + " from", x.bound(1, 1, 0), 1 << (due - 1));
        c.due("LENGTH " + length + " below", x.bound(1, 1, 1), 1 << due);
    }

    private static void asDecided(Checks c) {
        CallKeepers x = new CallKeepers();
        c.whole(x, 1, 0, 7);
        c.due("grows to 8", x.piece(1, 1, false, 0, 1), CallKeepers.LATER);
        c.due("it did", x.kept(0, 3), 8);
        c.due("it stays in STEP 3", x.step(3), 1);
        c.due("none in STEP 4", x.step(4), 0);
        c.due("below 8", x.bound(1, 1, 1), 8);
    }

    // "ALL that were DECIDED": KEPT, not KEPT, FELL, OUT and TAKEN ones; no LOST or WAITING ones
    private static void allThatWereDecided(Checks c) {
        CallKeepers x = States.FULL_ROW.made();
        int before = x.step(1);
        c.whole(x, 50, 0, 1);
        c.due("it FELL", x.step(1), before + 1);
        x.set(0, 9);
        c.whole(x, 51, 0, 1);
        c.due("not KEPT", x.step(1), before + 2);
        x.set(3, 0);
        c.lone(x, 52, 0, 0, 1);
        c.lone(x, 53, 0, 0, 1);
        x.keeper(x.waits(53, 0), false);
        c.due("WAITING and LOST", x.step(1), before + 2);
        x.tick(5);
        c.due("OUT", x.step(1), before + 3);
        x.take(0);
        c.due("TAKEN", x.step(1), before + 3);
        x.tick(60);
        c.due("forgotten", x.step(1), before + 3);
    }

    // "NONE: nothing was DECIDED"
    private static void nothingWasDecided(Checks c) {
        CallKeepers x = new CallKeepers();
        noBounds(c, x);
        c.lone(x, 0, 0, 0, 1);
        noBounds(c, x);
        x.keeper(2, false);
        c.due("LOST", x.count(3), 1);
        noBounds(c, x);
        c.lone(x, 0, 0, 0, 1);
        x.set(3, 0);
        x.tick(4);
        noBounds(c, x);
        c.due("OUT, but DECIDED", x.tick(1), 1);
        c.due("1 of 1", x.bound(1, 1, 0), 1);
        c.due("0 of 1", x.bound(0, 1, 0), 0);
    }

    private static void noBounds(Checks c, CallKeepers x) {
        int[][] shares = {{0, 1}, {1, 1}, {0, 1000}, {1000, 1000}};
        for (int[] share : shares) {
            c.due("nothing, from", x.bound(share[0], share[1], 0), CallKeepers.NONE);
            c.due("nothing, below", x.bound(share[0], share[1], 1), CallKeepers.NONE);
        }
        c.due("nothing in a STEP", x.step(1), 0);
    }

    // "the least one with a share of ALL up to it of a of b at least"
    private static void shareAtLeast(Checks c) {
        CallKeepers x = new CallKeepers();
        c.whole(x, 1, 0, 1);
        c.whole(x, 2, 0, 2);
        c.whole(x, 3, 0, 100);
        int[][] runs = {
            {1, 3, 2}, {333, 999, 2}, {333, 1000, 2}, {334, 999, 4}, {334, 1000, 4}, {1, 2, 4},
            {2, 3, 4}, {666, 999, 4}, {666, 1000, 4}, {667, 999, 128}, {667, 1000, 128}, {3, 3, 128}};
        for (int[] run : runs) {
            c.due(run[0] + " of " + run[1], x.bound(run[0], run[1], 1), run[2]);
            c.due(run[0] + " of " + run[1] + " from", x.bound(run[0], run[1], 0), run[2] / 2);
        }
    }

    /** One CALL in each STEP of 1 .. 13: j of 13 is at STEP j, and a little more is at the next. */
    private static void ofEachStep(Checks c) {
        CallKeepers x = new CallKeepers();
        for (int j = 1; j <= 13; j++) {
            wholeOf(c, x, j, 1 << (j - 1));
        }
        for (int j = 1; j <= 13; j++) {
            c.due(j + " of 13", x.bound(j, 13, 1), 1 << j);
            c.due(j + " of 13, from", x.bound(j, 13, 0), 1 << (j - 1));
            c.due("76 times as many", x.bound(76 * j, 988, 1), 1 << j);
            if (j < 13) {
                c.due("a little more", x.bound(76 * j + 1, 988, 1), 2 << j);
            }
            c.due("a little less", x.bound(76 * j - 1, 988, 1), 1 << j);
        }
    }

    // "LENGTHS there are from 2^(j - 1) on (STEP 0: 0), below 2^j"
    private static void noneAndAll(Checks c) {
        CallKeepers x = new CallKeepers();
        wholeOf(c, x, 1, 8000);
        int[] someB = {1, 2, 999, 1000};
        for (int b : someB) {
            c.due("0 of " + b + " from", x.bound(0, b, 0), 0);
            c.due("0 of " + b + " below", x.bound(0, b, 1), 1);
            c.due("1 of " + b + " from", x.bound(1, b, 0), 4096);
            c.due("1 of " + b + " below", x.bound(1, b, 1), 8192);
            c.due(b + " of " + b + " from", x.bound(b, b, 0), 4096);
            c.due(b + " of " + b + " below", x.bound(b, b, 1), 8192);
        }
    }
}
