/** Promises 6 and 8: tick, remembered. */
public final class TickTest {
    public static void main(String[] args) {
        Checks c = new Checks();
        ticksPass(c);
        torn(c);
        byNumbers(c);
        forgotten(c);
        forgottenButKept(c);
        wrongInputs(c);
        c.end();
    }

    private static void ticksPass(Checks c) {
        CallKeepers x = new CallKeepers();
        c.due("least", x.tick(1), 0);
        c.due("greatest", x.tick(60), 0);
        c.due("NOW", x.count(0), 61);
    }

    private static void torn(Checks c) {
        CallKeepers x = new CallKeepers();
        x.tick(10);
        c.lone(x, 5, 1, 2, 30);
        x.tick(2);
        c.lone(x, 6, 0, 2, 1);
        x.piece(5, 2, false, 0, 30);
        c.due("4 TICKS", x.tick(2), 0);
        c.due("5 TICKS since the first PIECE", x.tick(1), 1);
        c.due("waits no more", x.waits(5, 0), CallKeepers.NONE);
        c.due("the other waits", x.waits(6, 5), 3);
        int[] due = {5, 6, 2, 60, 1, 1, 15};
        for (int what = 0; what <= 6; what++) {
            c.due("kept 0, " + what, x.kept(0, what), due[what]);
        }
        c.due("many TICKS at once", x.tick(60), 1);
        c.due("it was DECIDED in its own TICK", x.kept(1, 6), 17);
        c.due("DECIDED", x.count(10), 2);
        c.due("TORN", x.count(11), 2);
    }

    private static void byNumbers(Checks c) {
        CallKeepers x = new CallKeepers();
        int[] came = {50, 3, 99, 0, 20};
        int[] due = {0, 3, 20, 50, 99};
        for (int number : came) {
            c.lone(x, number, 0, number % 5, 1);
        }
        x.set(2, 9);
        c.due("all at once", x.tick(5), 5);
        for (int i = 0; i < due.length; i++) {
            c.due("kept " + i, x.kept(i, 0), due[i]);
        }
    }

    private static void forgotten(Checks c) {
        CallKeepers x = new CallKeepers();
        x.set(2, 0);
        c.whole(x, 0, 0, 1);
        c.due("not KEPT", x.remembered(0), 0);
        c.due("never DECIDED", x.remembered(1), CallKeepers.NONE);
        c.lone(x, 2, 0, 0, 1);
        c.due("WAITING", x.remembered(2), CallKeepers.NONE);
        x.tick(49);
        c.due("49 TICKS", x.remembered(0), 0);
        c.due("DROPPED", x.piece(0, 0, false, 0, 1), CallKeepers.DROPPED);
        x.tick(1);
        c.due("50 TICKS", x.remembered(0), CallKeepers.NONE);
        c.due("TORN 45 TICKS ago", x.remembered(2), 0);
        c.lone(x, 0, 0, 3, 1);
        x.tick(5);
        c.due("DECIDED again", x.remembered(0), 0);
        c.due("TORN 50 TICKS ago", x.remembered(2), CallKeepers.NONE);
        for (int far : Checks.FAR_OFF) {
            c.due("remembered " + far, x.remembered(far), CallKeepers.BAD);
        }
        c.due("remembered 100", x.remembered(100), CallKeepers.BAD);
    }

    private static void forgottenButKept(Checks c) {
        CallKeepers x = new CallKeepers();
        x.set(2, 9);
        c.whole(x, 7, 0, 1);
        c.due("KEPT", x.remembered(7), 1);
        x.tick(49);
        c.due("49 TICKS", x.remembered(7), 1);
        x.tick(1);
        c.due("50 TICKS", x.remembered(7), CallKeepers.NONE);
        c.due("it stays in the row", x.kept(0, 0), 7);
        c.whole(x, 7, 1, 2);
        c.due("KEPT twice", x.count(2), 2);
        c.due("the new one grows", x.piece(7, 1, false, 0, 5), CallKeepers.LATER);
        c.due("the old one does not", x.kept(0, 3), 1);
        c.due("the new one does", x.kept(1, 3), 7);
        c.due("the old one is TAKEN", x.take(0), 7);
        c.due("the new one is remembered", x.remembered(7), 1);
        c.due("the new one is TAKEN", x.take(0), 7);
        c.due("and forgotten", x.remembered(7), CallKeepers.NONE);
    }

    private static void wrongInputs(Checks c) {
        CallKeepers x = new CallKeepers();
        c.lone(x, 1, 0, 0, 1);
        String before = Checks.all(x);
        for (int far : Checks.FAR_OFF) {
            c.due("tick " + far, x.tick(far), CallKeepers.BAD);
        }
        c.due("tick 0", x.tick(0), CallKeepers.BAD);
        c.due("tick 61", x.tick(61), CallKeepers.BAD);
        c.unchanged("tick", before, x);
    }
}
