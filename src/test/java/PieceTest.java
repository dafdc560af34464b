/** Promises 5 and 7: piece, waits. */
public final class PieceTest {
    public static void main(String[] args) {
        Checks c = new Checks();
        wholeInAnyOrder(c);
        waitsTells(c);
        twiceAndOdd(c);
        later(c);
        dropped(c);
        longest(c);
        fullHouse(c);
        wrongInputs(c);
        c.end();
    }

    private static void wholeInAnyOrder(Checks c) {
        CallKeepers x = new CallKeepers();
        int[] order = {3, 7, 0, 6, 1, 5, 2};
        for (int piece : order) {
            c.due("piece " + piece, x.piece(99, piece, piece == 7, piece % 5, 10 + piece), CallKeepers.TAKEN_IN);
        }
        c.due("the missing one", x.piece(99, 4, false, 0, 14), CallKeepers.WHOLE);
        c.due("does not wait", x.waits(99, 1), CallKeepers.NONE);
        c.due("pieces", x.kept(0, 1), 255);
        c.due("shape of the first", x.kept(0, 2), 3);
        c.due("length", x.kept(0, 3), 108);
        c.due("waiting", x.count(1), 0);
        c.lone(x, 0, 0, 0, 1);
        c.due("LAST comes last", x.piece(0, 1, true, 0, 1), CallKeepers.WHOLE);
        c.due("one piece", x.piece(1, 0, true, 0, 1), CallKeepers.WHOLE);
        c.lone(x, 2, 7, 0, 1);
        c.due("LAST is told but not all below", x.piece(3, 1, true, 0, 1), CallKeepers.TAKEN_IN);
    }

    private static void waitsTells(Checks c) {
        CallKeepers x = new CallKeepers();
        x.tick(1);
        c.lone(x, 4, 2, 4, 1000);
        int[] due = {3, 4, 4, 1000, CallKeepers.NONE, 0};
        for (int what = 0; what <= 5; what++) {
            c.due("waits 4, " + what, x.waits(4, what), due[what]);
        }
        x.tick(3);
        x.piece(4, 5, true, 1, 1);
        int[] dueThen = {3, 36, 4, 1001, 5, 3};
        for (int what = 0; what <= 5; what++) {
            c.due("then waits 4, " + what, x.waits(4, what), dueThen[what]);
            c.due("waits 5, " + what, x.waits(5, what), CallKeepers.NONE);
            c.due("waits 100, " + what, x.waits(100, what), CallKeepers.BAD);
            c.due("waits -1, " + what, x.waits(-1, what), CallKeepers.BAD);
        }
        for (int far : Checks.FAR_OFF) {
            c.due("waits 4, " + far, x.waits(4, far), CallKeepers.BAD);
            c.due("waits 5, " + far, x.waits(5, far), CallKeepers.BAD);
            c.due("waits far", x.waits(far, 0), CallKeepers.BAD);
        }
        c.due("waits 4, 6", x.waits(4, 6), CallKeepers.BAD);
        c.due("waits 5, 6", x.waits(5, 6), CallKeepers.BAD);
    }

    private static void twiceAndOdd(Checks c) {
        CallKeepers x = new CallKeepers();
        c.due("LAST", x.piece(1, 4, true, 0, 5), CallKeepers.TAKEN_IN);
        c.due("LAST again", x.piece(1, 4, true, 0, 5), CallKeepers.TWICE);
        c.due("LAST again, not told", x.piece(1, 4, false, 0, 5), CallKeepers.TWICE);
        c.due("beyond LAST", x.piece(1, 5, false, 0, 5), CallKeepers.ODD);
        c.due("LAST beyond LAST", x.piece(1, 7, true, 0, 5), CallKeepers.ODD);
        c.due("another LAST below", x.piece(1, 3, true, 0, 5), CallKeepers.ODD);
        c.due("below LAST", x.piece(1, 3, false, 0, 5), CallKeepers.TAKEN_IN);
        c.due("TWICE stands before ODD", x.piece(1, 3, true, 0, 5), CallKeepers.TWICE);
        c.due("length", x.waits(1, 3), 10);
        c.due("pieces", x.waits(1, 1), 24);
        c.due("LAST", x.waits(1, 4), 4);
        c.lone(x, 2, 3, 0, 5);
        c.due("LAST below one", x.piece(2, 2, true, 0, 5), CallKeepers.ODD);
        c.due("TWICE tells no LAST", x.piece(2, 3, true, 0, 5), CallKeepers.TWICE);
        c.due("no LAST", x.waits(2, 4), CallKeepers.NONE);
        c.due("beyond, no LAST told", x.piece(2, 6, false, 0, 5), CallKeepers.TAKEN_IN);
        c.due("LAST above all", x.piece(2, 7, true, 0, 5), CallKeepers.TAKEN_IN);
        c.due("TWICE", x.count(5), 4);
        c.due("ODD", x.count(6), 4);
        c.due("waiting", x.count(1), 2);
    }

    private static void later(Checks c) {
        CallKeepers x = new CallKeepers();
        c.whole(x, 1, 0, 100);
        c.due("at once", x.piece(1, 3, true, 4, 20), CallKeepers.LATER);
        c.due("pieces", x.kept(0, 1), 9);
        c.due("length", x.kept(0, 3), 120);
        c.due("shape", x.kept(0, 2), 0);
        c.due("it has that", x.piece(1, 3, false, 0, 20), CallKeepers.DROPPED);
        c.due("it has the first", x.piece(1, 0, false, 0, 20), CallKeepers.DROPPED);
        x.tick(3);
        c.due("LATE TICKS ago", x.piece(1, 7, false, 0, 1000), CallKeepers.LATER);
        x.tick(1);
        c.due("more than LATE", x.piece(1, 6, false, 0, 1), CallKeepers.DROPPED);
        x.set(5, 20);
        x.tick(16);
        c.due("20 TICKS ago", x.piece(1, 6, false, 0, 1), CallKeepers.LATER);
        x.tick(1);
        c.due("21 TICKS ago", x.piece(1, 5, false, 0, 1), CallKeepers.DROPPED);
        c.due("LATER", x.count(7), 3);
        c.due("DROPPED", x.count(8), 4);
        c.due("length", x.kept(0, 3), 1121);
        c.due("STEP as DECIDED", x.step(7), 1);
        c.due("weights", x.shape(0, 1), 1);
    }

    private static void dropped(Checks c) {
        CallKeepers x = new CallKeepers();
        x.set(2, 0);
        c.whole(x, 1, 0, 1);
        c.due("not KEPT", x.piece(1, 1, false, 0, 1), CallKeepers.DROPPED);
        x.set(5, 0);
        x.set(0, 1);
        c.whole(x, 2, 0, 1);
        c.due("LATE 0, at once", x.piece(2, 1, false, 0, 1), CallKeepers.LATER);
        x.tick(1);
        c.due("LATE 0, a TICK after", x.piece(2, 2, false, 0, 1), CallKeepers.DROPPED);
        x.take(0);
        c.due("TAKEN, so it is a new one", x.piece(2, 2, false, 0, 1), CallKeepers.TAKEN_IN);
    }

    private static void longest(Checks c) {
        CallKeepers x = new CallKeepers();
        x.set(2, 0);
        x.set(1, 8000);
        for (int piece = 0; piece < 7; piece++) {
            c.lone(x, 1, piece, 0, 1000);
        }
        c.due("all", x.piece(1, 7, true, 0, 1000), CallKeepers.WHOLE);
        c.due("weight", x.kept(0, 4), 1);
        c.due("length", x.kept(0, 3), 8000);
    }

    private static void fullHouse(Checks c) {
        CallKeepers x = new CallKeepers();
        for (int number = 0; number < 24; number++) {
            c.lone(x, number, 0, 0, 1);
        }
        c.due("waiting", x.count(1), 24);
        c.due("the 25th", x.piece(24, 0, false, 0, 1), CallKeepers.MISSED);
        c.due("one that is whole at once", x.piece(25, 0, true, 0, 1), CallKeepers.MISSED);
        c.due("not waiting", x.waits(24, 0), CallKeepers.NONE);
        c.due("missed", x.count(9), 2);
        c.due("decided", x.count(10), 0);
        c.due("more of one that waits", x.piece(23, 1, false, 0, 1), CallKeepers.TAKEN_IN);
        c.due("whole", x.piece(0, 1, true, 0, 1), CallKeepers.WHOLE);
        c.due("more of one that is KEPT", x.piece(0, 2, false, 0, 1), CallKeepers.LATER);
        c.lone(x, 24, 0, 0, 1);
        c.due("full again", x.piece(25, 0, false, 0, 1), CallKeepers.MISSED);
        x.keeper(0, false);
        c.due("a fall makes room", x.piece(25, 0, false, 0, 1), CallKeepers.TAKEN_IN);
    }

    private static void wrongInputs(Checks c) {
        CallKeepers x = new CallKeepers();
        c.lone(x, 0, 1, 0, 1);
        String before = Checks.all(x);
        for (int far : Checks.FAR_OFF) {
            c.due("number " + far, x.piece(far, 0, true, 0, 1), CallKeepers.BAD);
            c.due("piece " + far, x.piece(0, far, true, 0, 1), CallKeepers.BAD);
            c.due("shape " + far, x.piece(0, 0, true, far, 1), CallKeepers.BAD);
            c.due("length " + far, x.piece(0, 0, true, 0, far), CallKeepers.BAD);
        }
        c.due("number 100", x.piece(100, 0, true, 0, 1), CallKeepers.BAD);
        c.due("piece 8", x.piece(0, 8, true, 0, 1), CallKeepers.BAD);
        c.due("shape 5", x.piece(0, 0, true, 5, 1), CallKeepers.BAD);
        c.due("length 0", x.piece(0, 0, true, 0, 0), CallKeepers.BAD);
        c.due("length 1001", x.piece(0, 0, true, 0, 1001), CallKeepers.BAD);
        c.unchanged("piece", before, x);
        for (int keeper = 0; keeper <= 3; keeper++) {
            x.keeper(keeper, false);
        }
        c.due("BAD stands before MISSED", x.piece(100, 0, true, 0, 1), CallKeepers.BAD);
        c.due("BAD stands before MISSED", x.piece(0, 0, true, 0, 0), CallKeepers.BAD);
        c.due("missed", x.count(9), 0);
    }
}
