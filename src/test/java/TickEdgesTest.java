/** The edges of TICKS, of KEEPERS that fall and of what is forgotten, each sentence by itself. */
public final class TickEdgesTest {
    public static void main(String[] args) {
        Checks c = new Checks();
        patience(c);
        patienceFromTheFirstPiece(c);
        patienceBecomesLess(c);
        wholeBeforeTorn(c);
        byNumbers(c);
        forgottenAfterFifty(c);
        fiftySinceTorn(c);
        forgottenWhenTaken(c);
        keptStays(c);
        fallAndMove(c);
        tickCountsAllTicks(c);
        c.end();
    }

    // "WAITING ones whose first PIECE came PATIENCE TICKS ago are DECIDED, as TORN ones"
    private static void patience(Checks c) {
        for (int patience = 1; patience <= 20; patience++) {
            CallKeepers x = new CallKeepers();
            x.set(4, patience);
            c.lone(x, 1, 0, 0, 1);
            for (int ago = 1; ago < patience; ago++) {
                c.due("PATIENCE " + patience + ", " + ago + " ago", x.tick(1), 0);
                c.due("since its first PIECE", x.waits(1, 5), ago);
            }
            c.due("PATIENCE " + patience, x.tick(1), 1);
            c.due("does not WAIT", x.waits(1, 5), CallKeepers.NONE);
            c.due("as a TORN one", x.kept(0, 5), 1);
            c.due("in TICK", x.kept(0, 6), patience);
            c.due("TORN ones", x.count(11), 1);
        }
    }

    private static void patienceFromTheFirstPiece(Checks c) {
        CallKeepers x = new CallKeepers();
        c.lone(x, 1, 0, 0, 1);
        for (int ago = 1; ago <= 4; ago++) {
            c.due("nothing yet", x.tick(1), 0);
            c.lone(x, 1, ago, 0, 1);
            x.piece(1, 0, false, 0, 1);
        }
        c.due("5 TICKS since the first, 1 since the last that came", x.tick(1), 1);
        c.due("PIECES", x.kept(0, 1), 31);
    }

    /** One for which PATIENCE was over before is DECIDED in the next TICK, not in the call of set. */
    private static void patienceBecomesLess(Checks c) {
        CallKeepers x = new CallKeepers();
        x.set(4, 20);
        c.lone(x, 1, 0, 0, 1);
        x.tick(19);
        c.lone(x, 2, 0, 0, 1);
        x.set(4, 2);
        c.due("set decides none", x.count(10), 0);
        c.due("the old one", x.tick(1), 1);
        c.due("the new one waits on", x.waits(2, 5), 1);
        c.due("the new one", x.tick(1), 1);
    }

    private static void wholeBeforeTorn(Checks c) {
        CallKeepers x = new CallKeepers();
        c.lone(x, 1, 0, 0, 1);
        x.tick(4);
        c.due("in the last TICK", x.piece(1, 1, true, 0, 1), CallKeepers.WHOLE);
        c.due("it is not DECIDED again", x.tick(1), 0);
        c.due("not TORN", x.kept(0, 5), 0);
        c.lone(x, 2, 0, 0, 1);
        x.tick(5);
        c.due("too late to be whole", x.piece(2, 1, true, 0, 1), CallKeepers.LATER);
        c.due("TORN", x.kept(1, 5), 1);
    }

    // "by NUMBERS": the least first, so it is RARE and lies first, and the greatest FELL
    private static void byNumbers(Checks c) {
        CallKeepers x = new CallKeepers();
        x.set(2, 1);
        x.set(1, 8000);
        for (int number = 99; number >= 97; number--) {
            c.lone(x, number, 0, 0, 1);
        }
        c.lone(x, 0, 0, 0, 1);
        c.due("all", x.tick(5), 4);
        c.due("0 is RARE", x.kept(0, 0), 0);
        c.due("99 is the third in FAIR", x.kept(1, 0), 99);
        c.due("KEPT", x.count(2), 2);
        CallKeepers full = States.FULL_ROW.made();
        full.take(0);
        c.lone(full, 99, 1, 4, 1);
        c.lone(full, 50, 1, 3, 1);
        c.due("both", full.tick(5), 2);
        c.due("room for the least", full.kept(19, 0), 50);
        c.due("the greatest FELL", full.shape(4, 3), 1);
    }

    // "50 TICKS after that"
    private static void forgottenAfterFifty(Checks c) {
        CallKeepers x = new CallKeepers();
        x.set(2, 0);
        x.tick(7);
        c.whole(x, 1, 0, 1);
        for (int ago = 1; ago <= 49; ago++) {
            x.tick(1);
            c.due(ago + " TICKS ago", x.remembered(1), 0);
        }
        c.due("49 TICKS ago", x.piece(1, 1, false, 0, 1), CallKeepers.DROPPED);
        x.tick(1);
        c.due("50 TICKS ago", x.remembered(1), CallKeepers.NONE);
        c.due("a new one", x.piece(1, 1, false, 3, 1), CallKeepers.TAKEN_IN);
        c.due("with its own SHAPE", x.waits(1, 2), 3);
        c.due("DROPPED", x.count(8), 1);
        CallKeepers atOnce = new CallKeepers();
        atOnce.set(2, 0);
        c.whole(atOnce, 1, 0, 1);
        atOnce.tick(60);
        c.due("60 TICKS by one call", atOnce.remembered(1), CallKeepers.NONE);
        c.whole(atOnce, 1, 0, 1);
        c.due("DECIDED anew", atOnce.remembered(1), 0);
        atOnce.tick(49);
        c.due("49 TICKS after it was DECIDED anew", atOnce.remembered(1), 0);
        atOnce.tick(1);
        c.due("50 TICKS after it was DECIDED anew", atOnce.remembered(1), CallKeepers.NONE);
    }

    private static void fiftySinceTorn(Checks c) {
        CallKeepers x = new CallKeepers();
        x.set(2, 0);
        x.set(4, 20);
        c.lone(x, 1, 0, 0, 1);
        x.tick(60);
        x.tick(9);
        c.due("49 TICKS since it was TORN, 69 since it came", x.remembered(1), 0);
        x.tick(1);
        c.due("50 TICKS since it was TORN", x.remembered(1), CallKeepers.NONE);
    }

    // "FORGOTTEN is which CALL was DECIDED when it is TAKEN"
    private static void forgottenWhenTaken(Checks c) {
        CallKeepers x = new CallKeepers();
        c.whole(x, 1, 0, 1);
        c.whole(x, 2, 0, 1);
        c.due("KEPT", x.remembered(1), 1);
        c.due("heard as a LATER one", x.piece(1, 1, false, 0, 1), CallKeepers.LATER);
        x.take(0);
        c.due("TAKEN", x.remembered(1), CallKeepers.NONE);
        c.due("the other is not", x.remembered(2), 1);
        c.due("heard as a new one", x.piece(1, 1, false, 4, 1), CallKeepers.TAKEN_IN);
        c.due("KEPT is not what is WAITING", x.remembered(1), CallKeepers.NONE);
    }

    // "(where it is KEPT it stays)": in the row
    private static void keptStays(Checks c) {
        CallKeepers x = new CallKeepers();
        c.whole(x, 1, 0, 9);
        x.tick(49);
        c.due("49 TICKS ago", x.remembered(1), 1);
        c.due("too late for LATER, but remembered", x.piece(1, 1, false, 0, 1), CallKeepers.DROPPED);
        x.tick(1);
        int[] due = {1, 1, 0, 9, 1, 0, 0};
        for (int what = 0; what <= 6; what++) {
            c.due("50 TICKS ago, kept " + what, x.kept(0, what), due[what]);
        }
        c.due("KEPT ones", x.count(2), 1);
        c.due("its WEIGHT", x.shape(0, 1), 1);
        c.due("it can be TAKEN", x.take(0), 1);
        c.due("its WEIGHT is TAKEN", x.shape(0, 2), 1);
    }

    // "CALLS that WAIT there are LOST"; "those WAITING whose HOME is another one then MOVE there"
    private static void fallAndMove(Checks c) {
        for (int fallen = 0; fallen <= 3; fallen++) {
            CallKeepers x = new CallKeepers();
            int there = 0;
            for (int number = 0; number < 11; number++) {
                there += x.home(number) == fallen ? 1 : 0;
                c.lone(x, number, 1, 0, 1);
            }
            c.due("falls", x.keeper(fallen, false), 1);
            c.due("LOST at " + fallen, x.count(3), there);
            c.due("WAITING", x.count(1), 11 - there);
            c.due("UP without " + fallen, x.count(12), 3);
            c.due("falls no deeper", x.keeper(fallen, false), 0);
            c.due("LOST still", x.count(3), there);
            for (int number = 0; number < 11; number++) {
                x.piece(number, 2, false, 0, 1);
            }
            c.due("none MOVED by a fall", x.count(4), 0);
            c.due("comes", x.keeper(fallen, true), 1);
            c.due("those MOVED back", x.count(4), there);
            for (int number = 0; number < 11; number++) {
                c.due("at HOME " + number, x.waits(number, 0), x.home(number));
            }
            c.due("UP with " + fallen, x.count(12), 4);
            c.due("comes no further", x.keeper(fallen, true), 0);
            c.due("MOVED still", x.count(4), there);
            c.due("UP still", x.count(12), 4);
        }
    }

    // "how many CALLS were DECIDED by them": in all of the TICKS, and none that was WHOLE before
    private static void tickCountsAllTicks(Checks c) {
        CallKeepers x = new CallKeepers();
        x.set(2, 9);
        c.whole(x, 50, 0, 1);
        c.lone(x, 1, 0, 0, 1);
        x.tick(1);
        c.lone(x, 2, 0, 0, 1);
        x.tick(1);
        c.lone(x, 3, 0, 0, 1);
        c.due("one TICK before the first", x.tick(2), 0);
        c.due("the first and the second", x.tick(2), 2);
        c.due("the third", x.tick(60), 1);
        c.due("none is left", x.tick(60), 0);
        c.due("NOW", x.count(0), 126);
        c.due("TICK of the third", x.kept(3, 6), 7);
    }
}
