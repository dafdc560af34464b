/** Promise 14: count, all of them in one run, each with a number of its own. */
public final class CountTest {
    public static void main(String[] args) {
        Checks c = new Checks();
        everyCount(c);
        for (int far : Checks.FAR_OFF) {
            c.due("count " + far, new CallKeepers().count(far), CallKeepers.BAD);
        }
        c.due("count 13", new CallKeepers().count(13), CallKeepers.BAD);
        c.end();
    }

    private static void everyCount(Checks c) {
        CallKeepers x = new CallKeepers();
        x.set(2, 9);
        x.keeper(2, false);
        c.lone(x, 0, 7, 0, 1); // 1 moves, is torn
        x.keeper(2, true);
        x.tick(20);
        for (int number = 10; number < 16; number++) { // 6 kept
            c.whole(x, number, 1, 1);
        }
        for (int piece = 1; piece < 5; piece++) { // 4 later, 5 dropped
            x.piece(10, piece, false, 0, 1);
            x.piece(10, piece, false, 0, 1);
        }
        x.piece(11, 0, false, 0, 1);
        c.lone(x, 4, 3, 0, 1);
        x.piece(4, 3, false, 0, 1); // 1 twice
        x.piece(4, 2, true, 0, 1); // 2 odd
        x.piece(4, 1, true, 0, 1);
        for (int number = 30; number < 53; number++) {
            c.lone(x, number, 0, 0, 1);
        }
        for (int number = 60; number < 63; number++) { // 3 missed
            x.piece(number, 0, false, 0, 1);
        }
        x.keeper(3, false); // numbers 4, 37, 48 are lost
        int[] due = {20, 21, 7, 3, 1, 1, 2, 4, 5, 3, 7, 1, 3};
        for (int what = 0; what <= 12; what++) {
            c.due("count " + what, x.count(what), due[what]);
        }
    }
}
