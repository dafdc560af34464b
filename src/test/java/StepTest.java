/** Promises 12 and 13: step, bound. */
public final class StepTest {
    public static void main(String[] args) {
        Checks c = new Checks();
        edgesOfSteps(c);
        longest(c);
        bounds(c);
        wrongInputs(c);
        c.end();
    }

    private static void edgesOfSteps(Checks c) {
        CallKeepers x = new CallKeepers();
        int number = 0;
        for (int j = 1; j <= 9; j++) {
            c.whole(x, number++, 0, 1 << (j - 1));
            c.whole(x, number++, 0, (1 << j) - 1);
            c.due("step " + j, x.step(j), 2);
            c.due("step " + (j + 1), x.step(j + 1), 0);
        }
        c.whole(x, number++, 0, 512);
        c.whole(x, number++, 0, 1000);
        c.due("step 10", x.step(10), 2);
        c.due("step 0", x.step(0), 0);
        c.due("step 13", x.step(13), 0);
        x.take(0);
        c.due("what is TAKEN is still counted", x.step(1), 2);
    }

    private static void longest(Checks c) {
        CallKeepers x = new CallKeepers();
        for (int piece = 0; piece < 8; piece++) {
            x.piece(1, piece, piece == 7, 0, 1000);
        }
        for (int piece = 0; piece < 5; piece++) {
            x.piece(2, piece, piece == 4, 0, piece == 4 ? 95 : 1000);
            x.piece(3, piece, piece == 4, 0, piece == 4 ? 96 : 1000);
        }
        c.due("4095", x.step(12), 1);
        c.due("4096 and 8000", x.step(13), 2);
        c.due("from", x.bound(1, 1, 0), 4096);
        c.due("below", x.bound(1, 1, 1), 8192);
        c.due("from", x.bound(1, 3, 0), 2048);
        c.due("from", x.bound(334, 1000, 0), 4096);
    }

    private static void bounds(Checks c) {
        CallKeepers x = new CallKeepers();
        c.due("nothing was DECIDED", x.bound(0, 1, 0), CallKeepers.NONE);
        c.due("nothing was DECIDED", x.bound(1000, 1000, 1), CallKeepers.NONE);
        c.lone(x, 50, 1, 0, 9);
        c.due("one WAITS", x.bound(1, 1, 0), CallKeepers.NONE);
        int[] lengths = {1, 4, 5, 100};
        for (int i = 0; i < lengths.length; i++) {
            c.whole(x, i, 0, lengths[i]);
        }
        c.due("0 of 1 from", x.bound(0, 1, 0), 0);
        c.due("0 of 1 below", x.bound(0, 1, 1), 1);
        c.due("1 of 1000 from", x.bound(1, 1000, 0), 1);
        c.due("1 of 1000 below", x.bound(1, 1000, 1), 2);
        c.due("a fourth", x.bound(1, 4, 1), 2);
        c.due("251 of 1000 from", x.bound(251, 1000, 0), 4);
        c.due("three fourths", x.bound(3, 4, 1), 8);
        c.due("751 of 1000 from", x.bound(751, 1000, 0), 64);
        c.due("all below", x.bound(1000, 1000, 1), 128);
    }

    private static void wrongInputs(Checks c) {
        CallKeepers x = new CallKeepers();
        for (int made = 0; made < 2; made++) {
            for (int far : Checks.FAR_OFF) {
                c.due("step " + far, x.step(far), CallKeepers.BAD);
                c.due("bound a " + far, x.bound(far, 1000, 0), CallKeepers.BAD);
                c.due("bound b " + far, x.bound(0, far, 0), CallKeepers.BAD);
                c.due("bound what " + far, x.bound(0, 1, far), CallKeepers.BAD);
            }
            c.due("step 14", x.step(14), CallKeepers.BAD);
            c.due("a -1", x.bound(-1, 1, 0), CallKeepers.BAD);
            c.due("a over b", x.bound(1000, 999, 0), CallKeepers.BAD);
            c.due("b 0", x.bound(0, 0, 0), CallKeepers.BAD);
            c.due("b 1001", x.bound(0, 1001, 0), CallKeepers.BAD);
            c.due("what 2", x.bound(0, 1, 2), CallKeepers.BAD);
            c.whole(x, made, 0, 1);
        }
    }
}
