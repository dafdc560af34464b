/** Promise 4: set. */
public final class SetTest {
    private static final int[] FIRST = Checks.FIRST, LEAST = Checks.LEAST, GREATEST = Checks.GREATEST;

    public static void main(String[] args) {
        Checks c = new Checks();
        ranges(c);
        wrongInputs(c);
        shareBeginsAnew(c);
        patienceChanges(c);
        c.end();
    }

    private static void ranges(Checks c) {
        CallKeepers x = new CallKeepers();
        for (int what = 0; what <= 5; what++) {
            c.due("first of " + what, x.set(what, LEAST[what]), FIRST[what]);
            c.due("least of " + what, x.set(what, GREATEST[what]), LEAST[what]);
            c.due("below " + what, x.set(what, LEAST[what] - 1), CallKeepers.BAD);
            c.due("above " + what, x.set(what, GREATEST[what] + 1), CallKeepers.BAD);
            c.due("greatest of " + what, x.set(what, FIRST[what]), GREATEST[what]);
        }
        for (int what = 0; what <= 5; what++) {
            c.due("again first of " + what, x.set(what, FIRST[what]), FIRST[what]);
        }
    }

    private static void wrongInputs(Checks c) {
        CallKeepers x = new CallKeepers();
        x.set(2, 0);
        c.whole(x, 1, 0, 1);
        String before = Checks.all(x);
        for (int far : Checks.FAR_OFF) {
            c.due("set " + far, x.set(far, 1), CallKeepers.BAD);
            for (int what = 0; what <= 5; what++) {
                c.due("set " + what + " to " + far, x.set(what, far), CallKeepers.BAD);
            }
        }
        c.due("set 6", x.set(6, 1), CallKeepers.BAD);
        c.unchanged("set", before, x);
        c.due("SHARE is as it was", x.set(0, 3), 3);
    }

    private static void shareBeginsAnew(Checks c) {
        CallKeepers x = new CallKeepers();
        x.set(2, 0);
        c.whole(x, 1, 0, 1);
        c.whole(x, 2, 0, 1);
        c.whole(x, 3, 4, 1);
        c.due("the same SHARE", x.set(0, 3), 3);
        c.due("wait on", x.shape(0, 5), 2);
        c.due("none is LEFT", x.shape(0, 6), 0);
        x.set(0, 2);
        c.due("wait no more", x.shape(0, 5), 0);
        c.due("wait no more", x.shape(4, 5), 0);
        c.due("LEFT", x.shape(0, 6), 2);
        c.due("LEFT", x.shape(4, 6), 1);
        c.whole(x, 4, 0, 1);
        c.due("first of two", x.remembered(4), 0);
        c.whole(x, 5, 0, 1);
        c.due("second of two", x.kept(0, 4), 2);
        c.whole(x, 6, 0, 1);
        x.set(0, 9);
        c.due("LEFT adds up", x.shape(0, 6), 3);
    }

    private static void patienceChanges(Checks c) {
        CallKeepers x = new CallKeepers();
        c.lone(x, 1, 0, 0, 1);
        c.due("4 TICKS", x.tick(4), 0);
        x.set(4, 1);
        c.due("set decides nothing", x.count(10), 0);
        c.due("it is over by the next", x.tick(1), 1);
        x.set(4, 20);
        c.lone(x, 2, 0, 0, 1);
        c.due("19 TICKS", x.tick(19), 0);
        c.due("20 TICKS", x.tick(1), 1);
    }
}
