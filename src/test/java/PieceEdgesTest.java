/** The edges that "Terms" tells of a PIECE that comes, each sentence by itself. */
public final class PieceEdgesTest {
    private static final int PIECES = 8;

    public static void main(String[] args) {
        Checks c = new Checks();
        missedIfAllAreDown(c);
        twice(c);
        beyondItsLast(c);
        lastBelowOneThatItHas(c);
        anotherLast(c);
        everyThreePieces(c);
        wholeWithAllBelow(c);
        shapeOfTheFirst(c);
        lengthsAdded(c);
        laterUpToLate(c);
        laterOnlyIfKept(c);
        laterOnlyOncePerPiece(c);
        twentyFourWait(c);
        roomAgain(c);
        c.end();
    }

    // "(1) there is no HOME: it is MISSED", "NONE, if all are DOWN"
    private static void missedIfAllAreDown(Checks c) {
        for (int left = 0; left <= 3; left++) {
            CallKeepers x = new CallKeepers();
            c.whole(x, 10, 0, 1);
            for (int keeper = 0; keeper <= 3; keeper++) {
                x.keeper(keeper, keeper == left);
            }
            c.due("one is UP", x.count(12), 1);
            c.due("HOME is " + left, x.home(50), left);
            c.lone(x, 50, 1, 0, 1);
            c.due("waits at " + left, x.waits(50, 0), left);
            x.keeper(left, false);
            c.due("none is UP", x.count(12), 0);
            c.due("no HOME", x.home(50), CallKeepers.NONE);
            c.due("what waited is LOST", x.waits(50, 0), CallKeepers.NONE);
            c.due("a first PIECE", x.piece(50, 0, true, 0, 1), CallKeepers.MISSED);
            c.due("one for a KEPT CALL", x.piece(10, 1, false, 0, 1), CallKeepers.MISSED);
            c.due("that one does not grow", x.kept(0, 3), 1);
            c.due("MISSED", x.count(9), 2);
            x.keeper(left, true);
            c.lone(x, 50, 1, 0, 1);
            c.due("heard again", x.piece(10, 1, false, 0, 1), CallKeepers.LATER);
            c.due("MISSED still", x.count(9), 2);
        }
    }

    // "if it has that PIECE it is TWICE"
    private static void twice(Checks c) {
        for (int has = 0; has < PIECES; has++) {
            CallKeepers x = new CallKeepers();
            c.lone(x, 1, has, 0, 5);
            for (int piece = 0; piece < PIECES; piece++) {
                c.due(piece + " beside " + has, x.piece(1, piece, false, 0, 5),
                    piece == has ? CallKeepers.TWICE : CallKeepers.TAKEN_IN);
            }
            c.due("each once", x.waits(1, 3), 5 * PIECES);
            c.due("all", x.waits(1, 1), 255);
            c.due("TWICE", x.count(5), 1);
        }
    }

    // "one beyond its LAST .. is ODD"
    private static void beyondItsLast(Checks c) {
        for (int last = 1; last < PIECES; last++) {
            for (int piece = 0; piece < PIECES; piece++) {
                CallKeepers x = new CallKeepers();
                c.due("LAST " + last, x.piece(1, last, true, 0, 5), CallKeepers.TAKEN_IN);
                int due = piece > last ? CallKeepers.ODD
                    : piece == last ? CallKeepers.TWICE
                    : last == 1 ? CallKeepers.WHOLE : CallKeepers.TAKEN_IN;
                c.due(piece + " where LAST is " + last, x.piece(1, piece, false, 0, 5), due);
                if (due == CallKeepers.ODD) {
                    c.due("nothing is added", x.waits(1, 3), 5);
                    c.due("nor taken in", x.waits(1, 1), 1 << last);
                    c.due("ODD", x.count(6), 1);
                }
            }
        }
    }

    // "a LAST below one that it has .. is ODD"
    private static void lastBelowOneThatItHas(Checks c) {
        for (int has = 1; has < PIECES; has++) {
            for (int last = 0; last < PIECES; last++) {
                CallKeepers x = new CallKeepers();
                c.lone(x, 1, has, 0, 5);
                int due = last < has ? CallKeepers.ODD : last == has ? CallKeepers.TWICE : CallKeepers.TAKEN_IN;
                c.due("LAST " + last + " where it has " + has, x.piece(1, last, true, 0, 5), due);
                c.due("its LAST", x.waits(1, 4), last > has ? last : CallKeepers.NONE);
                if (due == CallKeepers.ODD) {
                    c.due("the same PIECE, not as LAST", x.piece(1, last, false, 0, 5), CallKeepers.TAKEN_IN);
                }
            }
        }
    }

    // "or where it has another LAST, is ODD"
    private static void anotherLast(Checks c) {
        for (int last = 2; last < PIECES; last++) {
            for (int other = 0; other < last; other++) {
                CallKeepers x = new CallKeepers();
                x.piece(1, last, true, 0, 5);
                c.due("LAST " + other + " after " + last, x.piece(1, other, true, 0, 5), CallKeepers.ODD);
                c.due("its LAST", x.waits(1, 4), last);
                c.due("nothing is added", x.waits(1, 3), 5);
                c.due("told as no LAST", x.piece(1, other, false, 0, 5), CallKeepers.TAKEN_IN);
            }
        }
    }

    /** All that can happen by three PIECES of one CALL, beside the model. */
    private static void everyThreePieces(Checks c) {
        int kinds = 2 * PIECES;
        for (int run = 0; run < kinds * kinds * kinds; run++) {
            CallKeepers x = new CallKeepers();
            SlowModel model = new SlowModel();
            int rest = run;
            for (int i = 0; i < 3; i++) {
                int piece = rest % kinds / 2;
                boolean last = rest % 2 == 1;
                rest /= kinds;
                c.due("run " + run + ", " + i, x.piece(5, piece, last, i, 7), model.piece(5, piece, last, i, 7));
            }
            for (int what = 0; what <= 5; what++) {
                c.due("run " + run + ", waits " + what, x.waits(5, what), model.waits(5, what));
            }
            c.due("run " + run + ", KEPT", x.count(2), model.keptSize());
        }
    }

    // "It is WHOLE, when it has its LAST and all below: it is DECIDED at once."
    private static void wholeWithAllBelow(Checks c) {
        for (int last = 0; last < PIECES; last++) {
            for (int missing = 0; missing <= last; missing++) {
                CallKeepers x = new CallKeepers();
                for (int piece = 0; piece <= last; piece++) {
                    if (piece != missing) {
                        c.due("not yet", x.piece(1, piece, piece == last, 0, 1), CallKeepers.TAKEN_IN);
                    }
                }
                c.due("nothing DECIDED", x.count(10), 0);
                c.due("the missing one", x.piece(1, missing, missing == last, 0, 1), CallKeepers.WHOLE);
                c.due("DECIDED", x.count(10), 1);
                c.due("in this TICK, not TORN", x.count(11), 0);
                c.due("does not WAIT", x.count(1), 0);
                c.due("its PIECES", x.kept(0, 1), (2 << last) - 1);
            }
        }
        CallKeepers x = new CallKeepers();
        for (int piece = 0; piece < PIECES; piece++) {
            c.lone(x, 1, piece, 0, 1);
        }
        c.due("all PIECES, but no LAST: it WAITS", x.waits(1, 1), 255);
    }

    // "ITS SHAPE .. is that of the PIECE of it that came first"
    private static void shapeOfTheFirst(Checks c) {
        CallKeepers x = new CallKeepers();
        c.lone(x, 1, 7, 3, 1);
        c.lone(x, 1, 0, 4, 1);
        c.due("of the first that came", x.waits(1, 2), 3);
        x.keeper(x.waits(1, 0), false);
        c.lone(x, 1, 0, 4, 1);
        c.due("LOST, so another came first", x.waits(1, 2), 4);
    }

    // "LENGTH of a CALL is that of its PIECES added": from 1 to 8 times 1000
    private static void lengthsAdded(Checks c) {
        CallKeepers x = new CallKeepers();
        c.whole(x, 1, 0, 1);
        c.due("least", x.kept(0, 3), 1);
        for (int piece = 0; piece < 7; piece++) {
            c.lone(x, 2, piece, 0, 1000);
            c.due("so far", x.waits(2, 3), 1000 * (piece + 1));
        }
        c.due("the eighth", x.piece(2, 7, true, 0, 1000), CallKeepers.WHOLE);
        c.due("greatest", x.kept(1, 3), 8000);
    }

    // "if it is KEPT there, no more TICKS ago than LATE": at LATE TICKS, and at one more
    private static void laterUpToLate(Checks c) {
        for (int late = 0; late <= 20; late++) {
            CallKeepers x = new CallKeepers();
            x.set(5, late);
            c.whole(x, 1, 0, 10);
            c.due("at once", x.piece(1, 1, false, 0, 5), CallKeepers.LATER);
            for (int ago = 0; ago < late; ago++) {
                x.tick(1);
            }
            c.due("LATE = " + late + " TICKS ago", x.piece(1, 2, false, 0, 5), CallKeepers.LATER);
            x.tick(1);
            c.due("one TICK more", x.piece(1, 3, false, 0, 5), CallKeepers.DROPPED);
            c.due("grew twice", x.kept(0, 3), 20);
            c.due("PIECES", x.kept(0, 1), 7);
            c.due("LATER", x.count(7), 2);
            c.due("DROPPED", x.count(8), 1);
        }
        CallKeepers x = new CallKeepers();
        x.set(5, 20);
        c.lone(x, 1, 0, 0, 1);
        x.tick(25);
        c.due("20 TICKS after it was TORN", x.piece(1, 1, true, 0, 1), CallKeepers.LATER);
        c.due("it is TORN still", x.kept(0, 5), 1);
        x.tick(1);
        c.due("21 TICKS after it was TORN", x.piece(1, 2, false, 0, 1), CallKeepers.DROPPED);
    }

    private static void laterOnlyIfKept(Checks c) {
        CallKeepers x = new CallKeepers();
        x.set(2, 1);
        c.whole(x, 1, 0, 1);
        c.whole(x, 2, 0, 1);
        c.due("KEPT", x.piece(1, 1, false, 0, 1), CallKeepers.LATER);
        c.due("not KEPT", x.piece(2, 1, false, 0, 1), CallKeepers.DROPPED);
        CallKeepers full = States.FULL_ROW.made();
        c.whole(full, 50, 0, 1);
        c.due("it FELL", full.piece(50, 1, false, 0, 1), CallKeepers.DROPPED);
        c.due("the 20th", full.piece(19, 1, false, 0, 1), CallKeepers.LATER);
    }

    // "and has not that PIECE"
    private static void laterOnlyOncePerPiece(Checks c) {
        CallKeepers x = new CallKeepers();
        c.whole(x, 1, 0, 1);
        for (int piece = 0; piece < PIECES; piece++) {
            int due = piece == 0 ? CallKeepers.DROPPED : CallKeepers.LATER;
            c.due("first " + piece, x.piece(1, piece, true, 0, 1000), due);
            c.due("again " + piece, x.piece(1, piece, true, 0, 1000), CallKeepers.DROPPED);
        }
        c.due("length", x.kept(0, 3), 7001);
        c.due("WEIGHT is as it was", x.kept(0, 4), 1);
        c.due("STEP as DECIDED", x.step(1), 1);
    }

    // "24 WAIT there at most in all: if there are so many the PIECE is MISSED"
    private static void twentyFourWait(Checks c) {
        CallKeepers spread = new CallKeepers();
        fill(c, spread);
        CallKeepers atOne = new CallKeepers();
        for (int keeper = 1; keeper <= 3; keeper++) {
            atOne.keeper(keeper, false);
        }
        fill(c, atOne);
        for (int keeper = 1; keeper <= 3; keeper++) {
            atOne.keeper(keeper, true);
        }
        c.due("moved, and still as many", atOne.count(1), 24);
        c.due("the 25th", atOne.piece(98, 0, false, 0, 1), CallKeepers.MISSED);
    }

    private static void fill(Checks c, CallKeepers x) {
        for (int number = 0; number < 24; number++) {
            c.due("WAITING before", x.count(1), number);
            c.lone(x, number, 1, 0, 1);
        }
        c.due("WAITING", x.count(1), 24);
        c.due("the 25th", x.piece(24, 1, false, 0, 1), CallKeepers.MISSED);
        c.due("whole at once", x.piece(99, 0, true, 0, 1), CallKeepers.MISSED);
        c.due("neither WAITS", x.waits(24, 1), CallKeepers.NONE);
        c.due("nor was DECIDED", x.remembered(99), CallKeepers.NONE);
        c.due("MISSED", x.count(9), 2);
        c.due("one that WAITS is heard", x.piece(23, 2, false, 0, 1), CallKeepers.TAKEN_IN);
        c.due("TWICE too", x.piece(23, 2, false, 0, 1), CallKeepers.TWICE);
        c.due("ODD too", x.piece(23, 0, true, 0, 1), CallKeepers.ODD);
        c.due("WAITING still", x.count(1), 24);
    }

    /** Room comes by one that is WHOLE, by TORN ones and by LOST ones. */
    private static void roomAgain(Checks c) {
        CallKeepers whole = States.FULL_HOUSE.made();
        c.due("whole", whole.piece(0, 0, false, 0, 1), CallKeepers.TAKEN_IN);
        c.due("whole", whole.piece(0, 2, true, 0, 1), CallKeepers.WHOLE);
        c.due("for the KEPT one there is no need of room", whole.piece(0, 3, false, 0, 1), CallKeepers.LATER);
        c.lone(whole, 50, 0, 0, 1);
        c.due("no more", whole.piece(51, 0, false, 0, 1), CallKeepers.MISSED);
        CallKeepers torn = States.FULL_HOUSE.made();
        c.due("torn", torn.tick(1), 24);
        for (int number = 50; number < 74; number++) {
            c.lone(torn, number, 0, 0, 1);
        }
        c.due("no more", torn.piece(74, 0, false, 0, 1), CallKeepers.MISSED);
        CallKeepers lost = States.FULL_HOUSE.made();
        lost.keeper(2, false);
        c.due("of 0 .. 23 the numbers 0, 11, 22 were there", lost.count(3), 3);
        for (int number = 50; number < 53; number++) {
            c.lone(lost, number, 0, 0, 1);
        }
        c.due("no more", lost.piece(53, 0, false, 0, 1), CallKeepers.MISSED);
    }
}
