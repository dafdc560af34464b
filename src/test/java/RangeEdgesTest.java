import java.util.TreeSet;

/**
 * Each range that the document tells: every number in it is heard; those outside it, just outside
 * above all, are BAD, and nothing changes.
 */
public final class RangeEdgesTest {
    /** One call with v in the place that is looked at. */
    private interface Asked {
        int with(CallKeepers x, int v);
    }

    public static void main(String[] args) {
        Checks c = new Checks();
        keepers(c);
        numbers(c);
        pieces(c);
        shapes(c);
        lengths(c);
        ticks(c);
        settings(c);
        places(c);
        steps(c);
        sharesOfBounds(c);
        whatIsAsked(c);
        c.end();
    }

    private static void range(Checks c, String name, int least, int greatest, Asked asked) {
        String before = Checks.all(States.LIVELY.made());
        for (int v = least; v <= greatest; v++) {
            int got = asked.with(States.LIVELY.made(), v);
            c.due(name + " " + v + " is BAD", got == CallKeepers.BAD ? 1 : 0, 0);
        }
        for (int v : outside(least, greatest)) {
            CallKeepers x = States.LIVELY.made();
            c.due(name + " " + v, asked.with(x, v), CallKeepers.BAD);
            c.unchanged(name + " " + v, before, x);
        }
    }

    /** Just outside, far off, and those that would be inside if only their low bits were looked at. */
    private static TreeSet<Integer> outside(int least, int greatest) {
        TreeSet<Integer> values = new TreeSet<>();
        for (int far : Checks.FAR_OFF) {
            values.add(far);
        }
        for (int by = 1; by <= 3; by++) {
            values.add(least - by);
            values.add(greatest + by);
        }
        for (int bit = 0; bit <= 31; bit++) {
            values.add(least + (1 << bit));
            values.add(greatest + (1 << bit));
            values.add(least - (1 << bit));
        }
        values.removeIf(v -> least <= v && v <= greatest);
        return values;
    }

    // "KEEPERS 0 .. 3"
    private static void keepers(Checks c) {
        range(c, "keeper DOWN", 0, 3, (x, v) -> x.keeper(v, false));
        range(c, "keeper UP", 0, 3, (x, v) -> x.keeper(v, true));
    }

    // "A CALL has a NUMBER 0 .. 99"
    private static void numbers(Checks c) {
        range(c, "home", 0, 99, (x, v) -> x.home(v));
        range(c, "piece's number", 0, 99, (x, v) -> x.piece(v, 1, false, 0, 1));
        range(c, "piece's number, LAST", 0, 99, (x, v) -> x.piece(v, 0, true, 0, 1));
        range(c, "remembered", 0, 99, (x, v) -> x.remembered(v));
        for (int what = 0; what <= 5; what++) {
            int asked = what;
            range(c, "number in waits " + what, 0, 99, (x, v) -> x.waits(v, asked));
        }
        CallKeepers x = new CallKeepers();
        int[] ends = {0, 99};
        for (int number : ends) {
            c.lone(x, number, 0, 0, 1);
            c.due("waits " + number, x.waits(number, 1), 1);
            c.due("whole " + number, x.piece(number, 1, true, 0, 1), CallKeepers.WHOLE);
            c.due("remembered " + number, x.remembered(number), 1);
            c.due("taken " + number, x.take(0), number);
        }
    }

    // "PIECES 0 .. 7"
    private static void pieces(Checks c) {
        range(c, "piece", 0, 7, (x, v) -> x.piece(50, v, false, 0, 1));
        range(c, "piece as LAST", 0, 7, (x, v) -> x.piece(50, v, true, 0, 1));
        range(c, "piece of one that WAITS", 0, 7, (x, v) -> x.piece(7, v, false, 0, 1));
        range(c, "piece of one that was DECIDED", 0, 7, (x, v) -> x.piece(1, v, false, 0, 1));
        CallKeepers x = new CallKeepers();
        c.lone(x, 1, 0, 0, 1);
        c.due("bit of piece 0", x.waits(1, 1), 1);
        c.lone(x, 2, 7, 0, 1);
        c.due("bit of piece 7", x.waits(2, 1), 128);
        c.due("LAST 7", x.piece(3, 7, true, 0, 1), CallKeepers.TAKEN_IN);
        c.due("LAST 7 is told", x.waits(3, 4), 7);
        c.due("LAST 0", x.piece(4, 0, true, 0, 1), CallKeepers.WHOLE);
    }

    // "ITS SHAPE (0 .. 4)"
    private static void shapes(Checks c) {
        range(c, "piece's shape", 0, 4, (x, v) -> x.piece(50, 0, false, v, 1));
        range(c, "shape of a piece of one that WAITS", 0, 4, (x, v) -> x.piece(7, 0, false, v, 1));
        range(c, "shape of a piece of one that was DECIDED", 0, 4, (x, v) -> x.piece(1, 1, false, v, 1));
        for (int what = 0; what <= 6; what++) {
            int asked = what;
            range(c, "shape in " + what, 0, 4, (x, v) -> x.shape(v, asked));
        }
        CallKeepers x = new CallKeepers();
        int[] ends = {0, 4};
        for (int shape : ends) {
            c.lone(x, 10 + shape, 0, shape, 1);
            c.due("waits as " + shape, x.waits(10 + shape, 2), shape);
            c.due("whole", x.piece(10 + shape, 1, true, 4 - shape, 1), CallKeepers.WHOLE);
            c.due("ALL of " + shape, x.shape(shape, 0), 1);
            c.due("is KEPT as " + shape, x.kept(0, 2), shape);
            x.take(0);
        }
    }

    // "each with a LENGTH (1 .. 1000)"
    private static void lengths(Checks c) {
        range(c, "length", 1, 1000, (x, v) -> x.piece(50, 0, false, 0, v));
        range(c, "length of a piece of one that WAITS", 1, 1000, (x, v) -> x.piece(7, 0, false, 0, v));
        range(c, "length of a piece of one that was DECIDED", 1, 1000, (x, v) -> x.piece(1, 1, false, 0, v));
        CallKeepers x = new CallKeepers();
        c.lone(x, 1, 0, 0, 1);
        c.due("least", x.waits(1, 3), 1);
        c.lone(x, 1, 1, 0, 1000);
        c.due("greatest", x.waits(1, 3), 1001);
    }

    // "So many TICKS (1 .. 60)"
    private static void ticks(Checks c) {
        range(c, "tick", 1, 60, (x, v) -> x.tick(v));
        for (int n = 1; n <= 60; n++) {
            CallKeepers x = new CallKeepers();
            c.due("tick " + n, x.tick(n), 0);
            c.due("NOW after " + n, x.count(0), n);
        }
    }

    // "SHARE 1 .. 9", "LIMIT 1 .. 8000", "FEW 0 .. 9", "TORN .. 0, 1", "PATIENCE 1 .. 20", "LATE 0 .. 20"
    private static void settings(Checks c) {
        for (int what = 0; what <= 5; what++) {
            int asked = what;
            int least = Checks.LEAST[what];
            int greatest = Checks.GREATEST[what];
            range(c, "set " + what, least, greatest, (x, v) -> x.set(asked, v));
            for (int v = least; v <= greatest; v++) {
                CallKeepers x = new CallKeepers();
                x.set(what, v);
                c.due("refused above " + v, x.set(what, greatest + 1), CallKeepers.BAD);
                c.due("refused below " + v, x.set(what, least - 1), CallKeepers.BAD);
                c.due("it was " + v, x.set(what, v), v);
            }
        }
    }

    // "the i-th that is KEPT"; "there is no such thing": none beyond the row's end
    private static void places(Checks c) {
        for (int what = 0; what <= 6; what++) {
            int asked = what;
            range(c, "place in kept " + what, 0, 2, (x, v) -> x.kept(v, asked));
        }
        range(c, "take", 0, 2, (x, v) -> x.take(v));
    }

    // "STEPS 0 .. 13"
    private static void steps(Checks c) {
        range(c, "step", 0, 13, (x, v) -> x.step(v));
    }

    // "b 1 .. 1000, a 0 .. b"
    private static void sharesOfBounds(Checks c) {
        range(c, "b", 1, 1000, (x, v) -> x.bound(0, v, 0));
        range(c, "b below", 1, 1000, (x, v) -> x.bound(0, v, 1));
        int[] someB = {1, 2, 3, 500, 999, 1000};
        for (int b : someB) {
            range(c, "a of " + b, 0, b, (x, v) -> x.bound(v, b, 0));
            range(c, "a of " + b + ", below", 0, b, (x, v) -> x.bound(v, b, 1));
            range(c, "b for a = " + b, b, 1000, (x, v) -> x.bound(b, v, 0));
        }
        int[] notB = {Integer.MIN_VALUE, -1, 0, 1001, Integer.MAX_VALUE};
        for (int b : notB) {
            CallKeepers x = States.LIVELY.made();
            c.due("no b is " + b, x.bound(b, b, 0), CallKeepers.BAD);
            c.due("no b is " + b, x.bound(b - 1, b, 0), CallKeepers.BAD);
            c.due("no b is " + b, x.bound(1, b, 1), CallKeepers.BAD);
        }
    }

    // The numbers by which promises 4, 7, 9, 11, 13 and 14 name what is asked.
    private static void whatIsAsked(Checks c) {
        range(c, "what in set", 0, 5, (x, v) -> x.set(v, 1));
        range(c, "what in waits", 0, 5, (x, v) -> x.waits(7, v));
        range(c, "what in waits of one that does not", 0, 5, (x, v) -> x.waits(50, v));
        range(c, "what in kept", 0, 6, (x, v) -> x.kept(0, v));
        range(c, "what in shape", 0, 6, (x, v) -> x.shape(0, v));
        range(c, "what in bound", 0, 1, (x, v) -> x.bound(1, 2, v));
        range(c, "what in count", 0, 12, (x, v) -> x.count(v));
    }
}
