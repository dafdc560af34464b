/** Promises 9 and 10: kept, take. */
public final class KeptTest {
    public static void main(String[] args) {
        Checks c = new Checks();
        aspects(c);
        rowOfTwenty(c);
        rowClosesUp(c);
        wrongInputs(c);
        c.end();
    }

    private static void aspects(Checks c) {
        CallKeepers x = new CallKeepers();
        x.tick(7);
        c.lone(x, 42, 0, 3, 600);
        x.piece(42, 1, true, 1, 500);
        int[] due = {42, 3, 3, 1100, 1, 0, 7};
        for (int what = 0; what <= 6; what++) {
            c.due("kept 0, " + what, x.kept(0, what), due[what]);
        }
        c.due("kept 0, 7", x.kept(0, 7), CallKeepers.BAD);
    }

    private static CallKeepers twenty(Checks c) {
        CallKeepers x = new CallKeepers();
        x.set(0, 1);
        for (int number = 0; number < 20; number++) {
            c.whole(x, number, number % 5, 1 + number);
        }
        return x;
    }

    private static void rowOfTwenty(Checks c) {
        CallKeepers x = twenty(c);
        c.due("KEPT", x.count(2), 20);
        c.due("the last", x.kept(19, 0), 19);
        c.due("none FELL", x.shape(0, 3), 0);
        c.whole(x, 20, 0, 1);
        c.due("the 21st FELL", x.shape(0, 3), 1);
        c.due("KEPT", x.count(2), 20);
        c.due("no 21st", x.kept(20, 0), CallKeepers.BAD);
        c.due("not KEPT", x.remembered(20), 0);
        c.due("DROPPED", x.piece(20, 1, false, 0, 1), CallKeepers.DROPPED);
        x.set(0, 2);
        c.whole(x, 21, 0, 1);
        c.whole(x, 22, 0, 1);
        c.due("its WEIGHT FELL", x.shape(0, 3), 3);
        c.due("ALL", x.shape(0, 0), 7);
    }

    private static void rowClosesUp(Checks c) {
        CallKeepers x = twenty(c);
        c.due("the middle", x.take(10), 10);
        c.due("the first", x.take(0), 0);
        c.due("the last", x.take(17), 19);
        c.due("KEPT", x.count(2), 17);
        c.due("no more", x.kept(17, 0), CallKeepers.BAD);
        for (int i = 0; i < 17; i++) {
            c.due("kept " + i, x.kept(i, 0), i < 9 ? i + 1 : i + 2);
            c.due("remembered", x.remembered(x.kept(i, 0)), 1);
        }
        c.due("forgotten", x.remembered(10), CallKeepers.NONE);
        c.due("TAKEN", x.shape(0, 2), 2);
        c.due("KEPT still", x.shape(0, 1), 2);
        c.whole(x, 10, 0, 1);
        c.due("comes to the end", x.kept(17, 0), 10);
        for (int i = 0; i < 18; i++) {
            x.take(0);
        }
        c.due("all are TAKEN", x.count(2), 0);
        c.due("none to take", x.take(0), CallKeepers.BAD);
    }

    private static CallKeepers nineteen(Checks c) {
        CallKeepers x = twenty(c);
        x.take(19);
        return x;
    }

    private static void wrongInputs(Checks c) {
        CallKeepers x = nineteen(c);
        // Told by a twin: twice told by one object would be more than its 512 calls.
        String before = Checks.all(nineteen(c));
        int[] off = {Integer.MIN_VALUE, -1, 19, 20, Integer.MAX_VALUE};
        for (int i : off) {
            c.due("take " + i, x.take(i), CallKeepers.BAD);
            c.due("kept " + i, x.kept(i, 0), CallKeepers.BAD);
            c.due("kept " + i + ", 7", x.kept(i, 7), CallKeepers.BAD);
        }
        for (int far : Checks.FAR_OFF) {
            c.due("kept 0, " + far, x.kept(0, far), CallKeepers.BAD);
        }
        c.due("kept 0, 7", x.kept(0, 7), CallKeepers.BAD);
        c.unchanged("take", before, x);
    }
}
