import java.util.Random;

/**
 * All promises together: runs of 512 calls, the same each time, against the SlowModel; some
 * of their numbers are just outside of what is allowed, and must be refused.
 */
public final class RandomRunsTest {
    private static final int RUNS = 400, CALLS = 512;

    private final Checks c = new Checks();
    private final Random chance;
    private final CallKeepers x = new CallKeepers();
    private final SlowModel model = new SlowModel();
    private final int numbers;
    private final int mostTicks;
    private final int keeperCalls;
    private final int takes;

    private RandomRunsTest(int seed) {
        chance = new Random(seed);
        numbers = seed % 2 == 0 ? 100 : 12 + chance.nextInt(30);
        mostTicks = seed % 3 == 0 ? 60 : 1 + chance.nextInt(4);
        keeperCalls = seed % 4 == 0 ? 8 : 1;
        takes = chance.nextInt(6);
    }

    public static void main(String[] args) {
        for (int seed = 1; seed <= RUNS; seed++) {
            RandomRunsTest run = new RandomRunsTest(seed);
            for (int i = 0; i < CALLS; i++) {
                run.call("run " + seed + ", call " + i + ": ");
            }
            run.c.end();
        }
    }

    /** From least to greatest, and now and then one that is not. */
    private int any(int least, int greatest) {
        int die = chance.nextInt(120);
        if (die == 0) {
            return chance.nextBoolean() ? least - 1 : greatest + 1;
        }
        if (die == 1) {
            return chance.nextInt();
        }
        return least + chance.nextInt(greatest - least + 1);
    }

    private static boolean in(int v, int least, int greatest) {
        return least <= v && v <= greatest;
    }

    private void call(String where) {
        int die = chance.nextInt(100);
        if (die < 50) {
            piece(where);
        } else if (die < 56) {
            int n = any(1, mostTicks);
            c.due(where + "tick " + n, x.tick(n), in(n, 1, 60) ? model.tick(n) : CallKeepers.BAD);
        } else if (die < 56 + keeperCalls) {
            int k = any(0, 3);
            boolean up = chance.nextInt(5) < 3;
            c.due(where + "keeper " + k, x.keeper(k, up), in(k, 0, 3) ? model.keeper(k, up) : CallKeepers.BAD);
        } else if (die < 66) {
            set(where);
        } else if (die < 66 + takes) {
            int i = any(0, Math.max(0, model.keptSize() - 1));
            c.due(where + "take " + i, x.take(i), in(i, 0, model.keptSize() - 1) ? model.take(i) : CallKeepers.BAD);
        } else if (die < 85) {
            askOfCalls(where, die % 4);
        } else {
            askOfAll(where, die % 6);
        }
    }

    private void piece(String where) {
        int number = any(0, numbers - 1);
        int piece = any(0, chance.nextInt(8));
        boolean last = chance.nextInt(3) == 0;
        int shape = any(0, 4);
        int length = chance.nextInt(4) == 0 ? any(1, 1000) : any(1, 30);
        boolean good = in(number, 0, 99) && in(piece, 0, 7) && in(shape, 0, 4) && in(length, 1, 1000);
        c.due(where + "piece " + number + " " + piece + " " + last + " " + shape + " " + length,
            x.piece(number, piece, last, shape, length),
            good ? model.piece(number, piece, last, shape, length) : CallKeepers.BAD);
    }

    private void set(String where) {
        int what = any(0, 5);
        int v = in(what, 0, 5) ? any(Checks.LEAST[what], Checks.GREATEST[what]) : 1;
        boolean good = in(what, 0, 5) && in(v, Checks.LEAST[what], Checks.GREATEST[what]);
        c.due(where + "set " + what + " " + v, x.set(what, v), good ? model.set(what, v) : CallKeepers.BAD);
    }

    private void askOfCalls(String where, int which) {
        int number = any(0, numbers - 1);
        boolean good = in(number, 0, 99);
        if (which == 0) {
            int what = any(0, 5);
            c.due(where + "waits " + number + " " + what, x.waits(number, what),
                good && in(what, 0, 5) ? model.waits(number, what) : CallKeepers.BAD);
        } else if (which == 1) {
            c.due(where + "remembered " + number, x.remembered(number),
                good ? model.remembered(number) : CallKeepers.BAD);
        } else if (which == 2) {
            c.due(where + "home " + number, x.home(number), good ? model.home(number) : CallKeepers.BAD);
        } else {
            int i = any(0, model.keptSize());
            int what = any(0, 6);
            c.due(where + "kept " + i + " " + what, x.kept(i, what),
                in(i, 0, model.keptSize() - 1) && in(what, 0, 6) ? model.kept(i, what) : CallKeepers.BAD);
        }
    }

    private void askOfAll(String where, int which) {
        if (which == 0) {
            int shape = any(0, 4);
            int what = any(0, 6);
            c.due(where + "shape " + shape + " " + what, x.shape(shape, what),
                in(shape, 0, 4) && in(what, 0, 6) ? model.shape(shape, what) : CallKeepers.BAD);
        } else if (which == 1) {
            int j = any(0, 13);
            c.due(where + "step " + j, x.step(j), in(j, 0, 13) ? model.step(j) : CallKeepers.BAD);
        } else if (which == 2) {
            int b = any(1, 1000);
            int a = b > 0 && b <= 1000 ? any(0, b) : 0;
            int what = any(0, 1);
            boolean good = in(b, 1, 1000) && in(a, 0, b) && in(what, 0, 1);
            c.due(where + "bound " + a + " " + b + " " + what, x.bound(a, b, what),
                good ? model.bound(a, b, what) : CallKeepers.BAD);
        } else if (which == 3) {
            c.due(where + "trace", x.trace(), model.trace());
        } else {
            int what = any(0, 12);
            c.due(where + "count " + what, x.count(what), in(what, 0, 12) ? model.count(what) : CallKeepers.BAD);
        }
    }
}
