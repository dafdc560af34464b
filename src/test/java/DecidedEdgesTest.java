/** The edges of "DECIDED": the four KINDS, their settings, the row and the sums; each sentence by itself. */
public final class DecidedEdgesTest {
    public static void main(String[] args) {
        Checks c = new Checks();
        eachShareth(c);
        shareBecomesAnother(c);
        limit(c);
        limitOfWholeCalls(c);
        few(c);
        tornAskedForOrNot(c);
        traceOfEachKind(c);
        firstSettings(c);
        rowOfTwenty(c);
        notKeptDoesNotFall(c);
        roomInTheRow(c);
        emptyRow(c);
        sumsOfAShape(c);
        c.end();
    }

    // "each SHARE-th has SHARE, others 0"
    private static void eachShareth(Checks c) {
        for (int share = 1; share <= 9; share++) {
            CallKeepers x = new CallKeepers();
            x.set(2, 0);
            x.set(0, share);
            for (int n = 1; n <= 2 * share; n++) {
                c.whole(x, n, 3, 1);
                c.due("SHARE " + share + ", the " + n, x.remembered(n), n % share == 0 ? 1 : 0);
                c.due("wait for it", x.shape(3, 5), n % share);
                c.due("WEIGHTS", x.shape(3, 1), n / share * share);
            }
            c.due("WEIGHT", x.kept(0, 4), share);
            c.due("WEIGHT", x.kept(1, 4), share);
            c.due("KEPT", x.count(2), 2);
        }
    }

    // "as it becomes another one each SHAPE begins anew in FAIR: those that wait .. are LEFT"
    private static void shareBecomesAnother(Checks c) {
        for (int share = 1; share <= 9; share++) {
            CallKeepers x = new CallKeepers();
            x.set(2, 0);
            x.set(0, 9);
            for (int n = 0; n < 8; n++) {
                c.whole(x, n, 0, 1);
            }
            c.whole(x, 8, 4, 1);
            boolean another = share != 9;
            c.due("to SHARE " + share, x.set(0, share), 9);
            c.due("wait", x.shape(0, 5), another ? 0 : 8);
            c.due("LEFT", x.shape(0, 6), another ? 8 : 0);
            c.due("wait, another SHAPE", x.shape(4, 5), another ? 0 : 1);
            c.due("LEFT, another SHAPE", x.shape(4, 6), another ? 1 : 0);
            for (int n = 1; n <= share; n++) {
                c.whole(x, 10 + n, 0, 1);
                boolean due = another ? n == share : n == 1;
                c.due("SHARE " + share + ", the " + n + " anew", x.remembered(10 + n), due ? 1 : 0);
            }
        }
        CallKeepers x = new CallKeepers();
        x.set(0, 4);
        c.due("none waits, none is LEFT", x.shape(0, 6), 0);
    }

    // "LONG: 1, if LENGTH is LIMIT or more, else up"
    private static void limit(Checks c) {
        int[] limits = {1, 2, 500, 999, 1000};
        for (int limit : limits) {
            CallKeepers x = new CallKeepers();
            x.set(2, 0);
            x.set(0, 9);
            x.set(1, limit);
            c.whole(x, 1, 0, limit);
            c.due("LIMIT " + limit, x.remembered(1), 1);
            c.due("with 1", x.kept(0, 4), 1);
            c.due("FAIR is not asked", x.trace(), 110);
            if (limit > 1) {
                c.whole(x, 2, 0, limit - 1);
                c.due("below LIMIT " + limit, x.remembered(2), 0);
                c.due("FAIR is asked", x.trace(), 221);
            }
            if (limit < 1000) {
                c.whole(x, 3, 0, limit + 1);
                c.due("more than LIMIT " + limit, x.remembered(3), 1);
            }
        }
    }

    /** LENGTH is that of all PIECES; what comes LATER is added too late. */
    private static void limitOfWholeCalls(Checks c) {
        int[] due = {0, 1};
        for (int more : due) {
            CallKeepers x = new CallKeepers();
            x.set(2, 0);
            x.set(1, 8000);
            for (int piece = 0; piece < 7; piece++) {
                c.lone(x, 1, piece, 0, 1000);
            }
            c.due("the last of 8", x.piece(1, 7, true, 0, 999 + more), CallKeepers.WHOLE);
            c.due("LENGTH " + (7999 + more) + ", LIMIT 8000", x.remembered(1), more);
        }
        CallKeepers x = new CallKeepers();
        x.set(0, 1);
        x.set(2, 0);
        c.whole(x, 1, 0, 999);
        c.due("FAIR", x.trace(), 111);
        c.due("beyond LIMIT", x.piece(1, 1, false, 0, 1), CallKeepers.LATER);
        c.due("not asked again", x.trace(), 111);
    }

    // "RARE: 1, if fewer than FEW of its SHAPE were DECIDED before it"
    private static void few(Checks c) {
        for (int few = 0; few <= 9; few++) {
            CallKeepers x = new CallKeepers();
            x.set(2, few);
            x.set(0, 9);
            c.whole(x, 99, 1, 1);
            for (int before = 0; before < few; before++) {
                c.whole(x, before, 0, 1);
                c.due("FEW " + few + ", " + before + " before", x.remembered(before), 1);
            }
            c.whole(x, 50, 0, 1);
            c.due("FEW " + few + ", so many before", x.remembered(50), 0);
            c.due("ALL", x.shape(0, 0), few + 1);
            c.due("waits in FAIR", x.shape(0, 5), 1);
        }
        CallKeepers x = new CallKeepers();
        x.set(3, 0);
        c.lone(x, 1, 1, 0, 1);
        c.lone(x, 2, 1, 0, 1);
        x.tick(5);
        c.whole(x, 3, 0, 1);
        c.due("OUT ones were DECIDED before it, too", x.remembered(3), 0);
    }

    // "TORN: 0, if TORN ones are not asked for, else up"
    private static void tornAskedForOrNot(Checks c) {
        for (int asked = 0; asked <= 1; asked++) {
            CallKeepers x = new CallKeepers();
            x.set(3, asked);
            c.lone(x, 1, 1, 2, 1000);
            c.due("torn", x.tick(5), 1);
            c.due("remembered", x.remembered(1), asked);
            c.due("OUT", x.shape(2, 4), 1 - asked);
            c.due("ALL", x.shape(2, 0), 1);
            c.due("KEPT", x.count(2), asked);
            c.due("trace", x.trace(), 1000 + 100 * asked);
            c.whole(x, 2, 3, 1);
            c.due("a WHOLE one is KEPT", x.remembered(2), 1);
        }
        CallKeepers x = new CallKeepers();
        x.set(2, 0);
        c.lone(x, 1, 1, 2, 1);
        x.tick(5);
        c.due("0 by FAIR is not OUT", x.shape(2, 4), 0);
        c.due("it waits for its SHARE-th", x.shape(2, 5), 1);
    }

    // "numbers in brackets come to THE TRACE as often as that body is asked"
    private static void traceOfEachKind(Checks c) {
        for (int torn = 0; torn <= 1; torn++) {
            int[][] runs = {{9, 1, 100}, {0, 1, 110}, {0, 8000, 111}};
            for (int[] run : runs) {
                CallKeepers x = new CallKeepers();
                c.due("at first", x.trace(), 0);
                x.set(2, run[0]);
                x.set(1, run[1]);
                x.piece(1, 0, torn == 0, 0, 1);
                x.tick(5);
                c.due("FEW " + run[0] + ", LIMIT " + run[1] + ", TORN " + torn, x.trace(), run[2] + 1000 * torn);
            }
        }
    }

    // "SHARE .. (3 at first), LIMIT .. (1000), FEW .. (2), .. asked for (1), PATIENCE .. (5), LATE .. (3)"
    private static void firstSettings(Checks c) {
        for (int what = 0; what <= 5; what++) {
            c.due("at first " + what, new CallKeepers().set(what, 1), Checks.FIRST[what]);
        }
    }

    // "KEPT ones lie in a row, 20 at most; one that would be the 21st FELL"
    private static void rowOfTwenty(Checks c) {
        CallKeepers x = new CallKeepers();
        x.set(0, 1);
        for (int number = 0; number < 20; number++) {
            c.due("KEPT before", x.count(2), number);
            c.due("no such place", x.kept(number, 0), CallKeepers.BAD);
            c.whole(x, number, 2, 1);
            c.due("lies at the end", x.kept(number, 0), number);
            c.due("is KEPT", x.remembered(number), 1);
        }
        c.due("none FELL", x.shape(2, 3), 0);
        c.whole(x, 20, 2, 1);
        c.due("the 21st FELL", x.shape(2, 3), 1);
        c.due("it is not KEPT", x.remembered(20), 0);
        c.due("KEPT", x.count(2), 20);
        c.due("the 20th is as it was", x.kept(19, 0), 19);
        c.due("WEIGHTS", x.shape(2, 1), 20);
        c.due("no 21st place", x.kept(20, 0), CallKeepers.BAD);
        c.due("none to take there", x.take(20), CallKeepers.BAD);
        c.due("DECIDED all the same", x.count(10), 21);
        c.lone(x, 21, 1, 3, 1);
        x.tick(5);
        c.due("a TORN one FELL", x.shape(3, 3), 1);
        x.set(0, 9);
        for (int number = 30; number < 39; number++) {
            c.whole(x, number, 2, 1);
        }
        c.due("with its WEIGHT", x.shape(2, 3), 10);
    }

    private static void notKeptDoesNotFall(Checks c) {
        CallKeepers x = States.FULL_ROW.made();
        x.set(0, 9);
        c.whole(x, 50, 1, 1);
        c.due("WEIGHT 0 does not fall", x.shape(1, 3), 0);
        c.due("it waits for its SHARE-th", x.shape(1, 5), 1);
        x.set(3, 0);
        c.lone(x, 51, 1, 1, 1);
        x.tick(5);
        c.due("OUT does not fall", x.shape(1, 3), 0);
        c.due("OUT", x.shape(1, 4), 1);
    }

    // "The i-th that is KEPT is TAKEN, the row closes up"
    private static void roomInTheRow(Checks c) {
        for (int i = 0; i < 20; i++) {
            CallKeepers x = States.FULL_ROW.made();
            c.due("take " + i, x.take(i), i);
            c.due("KEPT", x.count(2), 19);
            c.due("no 20th", x.kept(19, 0), CallKeepers.BAD);
            for (int k = 0; k < 19; k++) {
                c.due("take " + i + ", kept " + k, x.kept(k, 0), k < i ? k : k + 1);
            }
            c.whole(x, 50, 0, 1);
            c.due("room for one", x.kept(19, 0), 50);
            c.whole(x, 51, 0, 1);
            c.due("and for no other", x.shape(0, 3), 1);
        }
    }

    private static void emptyRow(Checks c) {
        CallKeepers x = new CallKeepers();
        c.due("none to take", x.take(0), CallKeepers.BAD);
        c.due("none is KEPT", x.kept(0, 0), CallKeepers.BAD);
        c.whole(x, 1, 0, 1);
        c.due("none beside it", x.take(1), CallKeepers.BAD);
        c.due("the one", x.take(0), 1);
        c.due("none to take again", x.take(0), CallKeepers.BAD);
        c.due("none is KEPT again", x.kept(0, 0), CallKeepers.BAD);
        c.due("TAKEN once", x.shape(0, 2), 1);
        c.due("KEPT", x.count(2), 0);
    }

    // "Of a SHAPE: ALL that were DECIDED are: .. added"
    private static void sumsOfAShape(Checks c) {
        for (int share = 1; share <= 9; share++) {
            CallKeepers x = new CallKeepers();
            for (int number = 0; number < 40; number++) {
                if (number == 20) {
                    x.set(0, share);
                    x.set(3, share % 2);
                }
                x.piece(number, 0, number % 4 != 0, number % 2, 111 * (number % 10) + 1);
                if (number % 8 == 0) {
                    x.tick(2);
                    x.take(0);
                }
            }
            x.tick(5);
            c.due("all of them", x.shape(0, 0) + x.shape(1, 0), 40);
            for (int shape = 0; shape <= 1; shape++) {
                int sum = 0;
                for (int what = 1; what <= 6; what++) {
                    sum += x.shape(shape, what);
                }
                c.due("SHARE " + share + ", ALL of " + shape, x.shape(shape, 0), sum);
            }
        }
    }
}
