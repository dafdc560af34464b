/** Promises 1, 2 and 3: a new object, keeper, home; calls that are lost and that move. */
public final class KeeperTest {
    public static void main(String[] args) {
        Checks c = new Checks();
        newObject(c);
        homes(c);
        upAndDown(c);
        lost(c);
        moved(c);
        movedThreeTimes(c);
        allDown(c);
        wrongInputs(c);
        c.end();
    }

    private static void newObject(Checks c) {
        CallKeepers x = new CallKeepers();
        for (int what = 0; what <= 11; what++) {
            c.due("new count " + what, x.count(what), 0);
        }
        c.due("new count 12", x.count(12), 4);
        for (int number = 0; number <= 99; number++) {
            c.due("new waits " + number, x.waits(number, 0), CallKeepers.NONE);
            c.due("new remembered " + number, x.remembered(number), CallKeepers.NONE);
        }
        c.due("new kept", x.kept(0, 0), CallKeepers.BAD);
        c.due("new trace", x.trace(), 0);
        for (int keeper = 0; keeper <= 3; keeper++) {
            c.due("keeper is UP " + keeper, x.keeper(keeper, true), 0);
        }
    }

    private static void homes(Checks c) {
        CallKeepers x = new CallKeepers();
        int[] due = {2, 0, 1, 0, 3, 1, 0, 1, 1, 0, 1};
        for (int number = 0; number <= 99; number++) {
            c.due("home " + number, x.home(number), due[number % 11]);
        }
        x.keeper(2, false);
        c.due("home 0 without 2", x.home(0), 1);
        x.keeper(1, false);
        c.due("home 0 without 1, 2", x.home(0), 3);
        c.due("home 99 without 1, 2", x.home(99), 3);
        x.keeper(3, false);
        c.due("home 0 with 0 alone", x.home(0), 0);
    }

    private static void upAndDown(Checks c) {
        CallKeepers x = new CallKeepers();
        for (int keeper = 0; keeper <= 3; keeper++) {
            c.due("falls " + keeper, x.keeper(keeper, false), 1);
            c.due("fell before " + keeper, x.keeper(keeper, false), 0);
            c.due("left UP", x.count(12), 3 - keeper);
        }
        for (int keeper = 0; keeper <= 3; keeper++) {
            c.due("comes " + keeper, x.keeper(keeper, true), 1);
            c.due("came before " + keeper, x.keeper(keeper, true), 0);
            c.due("again UP", x.count(12), keeper + 1);
        }
    }

    private static void lost(Checks c) {
        CallKeepers x = new CallKeepers();
        int[] atOne = {2, 5, 7, 8};
        for (int number : atOne) {
            c.lone(x, number, 0, 0, 1);
        }
        c.lone(x, 1, 0, 0, 1);
        c.lone(x, 0, 0, 0, 1);
        x.keeper(1, false);
        c.due("lost", x.count(3), 4);
        c.due("waiting", x.count(1), 2);
        c.due("moved by a fall", x.count(4), 0);
        for (int number : atOne) {
            c.due("waits " + number, x.waits(number, 1), CallKeepers.NONE);
            c.due("remembered " + number, x.remembered(number), CallKeepers.NONE);
        }
        c.due("decided", x.count(10), 0);
        c.lone(x, 2, 1, 3, 9);
        c.due("begins anew at", x.waits(2, 0), 3);
        c.due("begins anew with", x.waits(2, 1), 2);
        c.due("begins anew as", x.waits(2, 2), 3);
    }

    private static void moved(Checks c) {
        CallKeepers x = new CallKeepers();
        x.keeper(2, false);
        c.lone(x, 0, 3, 2, 40);
        c.lone(x, 11, 0, 0, 1);
        c.lone(x, 1, 0, 0, 1);
        x.tick(2);
        c.due("at", x.waits(0, 0), 1);
        x.keeper(2, true);
        c.due("moved to", x.waits(0, 0), 2);
        c.due("moved to", x.waits(11, 0), 2);
        c.due("stays at", x.waits(1, 0), 0);
        c.due("moved", x.count(4), 2);
        c.due("lost", x.count(3), 0);
        c.due("pieces after a move", x.waits(0, 1), 8);
        c.due("shape after a move", x.waits(0, 2), 2);
        c.due("length after a move", x.waits(0, 3), 40);
        c.due("ticks after a move", x.waits(0, 5), 2);
        x.keeper(1, false);
        c.due("not lost with its old keeper", x.count(3), 0);
        x.keeper(2, false);
        c.due("lost with its new keeper", x.count(3), 2);
        c.due("moved ever", x.count(4), 2);
    }

    /** Each MOVE counts, as often as one and the same CALL makes one. */
    private static void movedThreeTimes(Checks c) {
        CallKeepers x = new CallKeepers();
        for (int keeper = 1; keeper <= 3; keeper++) {
            x.keeper(keeper, false);
        }
        c.lone(x, 0, 3, 2, 40);
        c.due("only one is UP", x.waits(0, 0), 0);
        int[] comes = {3, 1, 2};
        for (int moves = 1; moves <= 3; moves++) {
            x.keeper(comes[moves - 1], true);
            c.due("moved to", x.waits(0, 0), comes[moves - 1]);
            c.due("moved ever", x.count(4), moves);
        }
        c.due("waiting", x.count(1), 1);
        c.due("lost", x.count(3), 0);
    }

    private static void allDown(Checks c) {
        CallKeepers x = new CallKeepers();
        c.whole(x, 7, 0, 1);
        c.lone(x, 9, 0, 0, 1);
        for (int keeper = 0; keeper <= 3; keeper++) {
            x.keeper(keeper, false);
        }
        for (int number = 0; number <= 99; number++) {
            c.due("home of " + number + ", all DOWN", x.home(number), CallKeepers.NONE);
        }
        c.due("waiting", x.count(1), 0);
        c.due("lost", x.count(3), 1);
        c.due("new", x.piece(3, 0, true, 0, 1), CallKeepers.MISSED);
        c.due("decided", x.piece(7, 1, false, 0, 1), CallKeepers.MISSED);
        c.due("missed", x.count(9), 2);
        c.due("later", x.count(7), 0);
        c.due("length of the kept one", x.kept(0, 3), 1);
        x.keeper(3, true);
        c.due("one is UP again", x.piece(7, 1, false, 0, 1), CallKeepers.LATER);
        c.due("home", x.home(3), 3);
    }

    private static void wrongInputs(Checks c) {
        CallKeepers x = new CallKeepers();
        c.lone(x, 0, 0, 0, 1);
        String before = Checks.all(x);
        for (int far : Checks.FAR_OFF) {
            c.due("keeper " + far, x.keeper(far, false), CallKeepers.BAD);
            c.due("home " + far, x.home(far), CallKeepers.BAD);
        }
        c.due("keeper 4", x.keeper(4, false), CallKeepers.BAD);
        c.due("keeper 4 up", x.keeper(4, true), CallKeepers.BAD);
        c.due("home 100", x.home(100), CallKeepers.BAD);
        c.unchanged("keeper", before, x);
    }
}
