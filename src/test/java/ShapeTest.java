/** Promises 11 and 15: shape, trace; the four KINDS and their WEIGHTS. */
public final class ShapeTest {
    public static void main(String[] args) {
        Checks c = new Checks();
        rare(c);
        longOnes(c);
        fair(c);
        torn(c);
        tallies(c);
        wrongInputs(c);
        c.end();
    }

    private static void rare(Checks c) {
        CallKeepers x = new CallKeepers();
        c.whole(x, 1, 0, 1);
        c.whole(x, 2, 0, 1);
        c.due("two are RARE", x.trace(), 200);
        c.whole(x, 3, 0, 1);
        c.due("the third came to FAIR", x.trace(), 311);
        c.due("not KEPT", x.remembered(3), 0);
        c.whole(x, 4, 1, 1);
        c.due("RARE of another SHAPE", x.trace(), 411);
        x.set(2, 9);
        for (int number = 10; number < 16; number++) {
            c.whole(x, number, 0, 1);
        }
        c.due("FEW may grow", x.trace(), 1011);
        c.whole(x, 16, 0, 1);
        c.due("nine were before it", x.trace(), 1122);
        c.due("KEPT", x.shape(0, 1), 8);
        c.due("waits for its SHARE-th", x.shape(0, 5), 2);
    }

    private static void longOnes(Checks c) {
        CallKeepers x = new CallKeepers();
        x.set(2, 0);
        c.whole(x, 1, 0, 999);
        c.due("below LIMIT", x.remembered(1), 0);
        c.due("trace", x.trace(), 111);
        c.whole(x, 2, 0, 1000);
        c.due("LIMIT", x.remembered(2), 1);
        c.due("weight", x.kept(0, 4), 1);
        c.due("trace", x.trace(), 221);
        x.set(1, 1);
        c.whole(x, 3, 0, 1);
        c.due("least LIMIT", x.remembered(3), 1);
        c.due("only the first came to FAIR", x.shape(0, 5), 1);
        c.lone(x, 4, 1, 0, 1);
        x.tick(5);
        c.due("TORN and LONG", x.trace(), 331 + 1110);
        c.due("weights", x.shape(0, 1), 3);
    }

    private static void fair(Checks c) {
        CallKeepers x = new CallKeepers();
        x.set(2, 0);
        for (int number = 0; number < 7; number++) {
            c.whole(x, number, 2, 1);
            c.due("remembered " + number, x.remembered(number), number % 3 == 2 ? 1 : 0);
        }
        c.whole(x, 50, 3, 1);
        c.due("KEPT", x.count(2), 2);
        c.due("weight", x.kept(0, 4), 3);
        c.due("weight", x.kept(1, 4), 3);
        c.due("weights", x.shape(2, 1), 6);
        c.due("wait", x.shape(2, 5), 1);
        c.due("another SHAPE waits", x.shape(3, 5), 1);
        x.set(0, 1);
        c.whole(x, 60, 2, 1);
        c.due("SHARE 1", x.kept(2, 4), 1);
        c.due("none waits", x.shape(2, 5), 0);
        x.set(0, 9);
        for (int number = 70; number < 78; number++) {
            c.whole(x, number, 4, 1);
        }
        c.due("eight wait", x.shape(4, 5), 8);
        c.whole(x, 78, 4, 1);
        c.due("SHARE 9", x.kept(3, 4), 9);
        c.due("trace", x.trace(), 18 * 111);
    }

    private static void torn(Checks c) {
        CallKeepers x = new CallKeepers();
        x.set(2, 1);
        c.lone(x, 1, 1, 0, 1);
        x.tick(5);
        c.due("asked for, RARE", x.trace(), 1100);
        c.due("KEPT", x.kept(0, 5), 1);
        c.lone(x, 2, 1, 0, 1);
        x.tick(5);
        c.due("asked for, FAIR", x.trace(), 2211);
        c.due("waits in FAIR", x.shape(0, 5), 1);
        c.due("that is not OUT", x.shape(0, 4), 0);
        x.set(3, 0);
        c.lone(x, 3, 1, 0, 1000);
        x.tick(5);
        c.due("not asked for", x.trace(), 3211);
        c.due("OUT", x.shape(0, 4), 1);
        c.due("ALL", x.shape(0, 0), 3);
        c.due("remembered", x.remembered(3), 0);
        c.whole(x, 4, 0, 1);
        c.due("WHOLE ones are asked", x.trace(), 3322);
    }

    private static void tallies(Checks c) {
        CallKeepers x = new CallKeepers();
        for (int number = 0; number < 50; number++) {
            c.whole(x, number, number % 2, 1);
        }
        x.set(0, 2);
        x.take(0);
        x.take(4);
        c.whole(x, 60, 0, 1);
        // Of each 25: 2 RARE, then 23 that came to FAIR: 7 times 3, and 2 that are LEFT.
        // TAKEN are the first of SHAPE 0, with 1, and the first of SHAPE 1 with 3.
        int[] dueZero = {26, 22, 1, 0, 0, 1, 2};
        int[] dueOne = {25, 20, 3, 0, 0, 0, 2};
        for (int what = 0; what <= 6; what++) {
            c.due("shape 0, " + what, x.shape(0, what), dueZero[what]);
            c.due("shape 1, " + what, x.shape(1, what), dueOne[what]);
            c.due("shape 4, " + what, x.shape(4, what), 0);
        }
    }

    private static void wrongInputs(Checks c) {
        CallKeepers x = new CallKeepers();
        for (int far : Checks.FAR_OFF) {
            c.due("shape " + far, x.shape(far, 0), CallKeepers.BAD);
            c.due("shape 0, " + far, x.shape(0, far), CallKeepers.BAD);
        }
        c.due("shape 5", x.shape(5, 0), CallKeepers.BAD);
        c.due("shape 0, 7", x.shape(0, 7), CallKeepers.BAD);
        c.due("shape 4, 6", x.shape(4, 6), 0);
    }
}
