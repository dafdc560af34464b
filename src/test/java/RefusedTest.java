import java.util.ArrayList;
import java.util.List;

/**
 * "Refused, and nothing changes, the first of these: BAD .. STATE .. FULL": each refused call in each
 * state, and what all later calls answer, beside an object that has not heard the refused one.
 */
public final class RefusedTest {
    private interface Call {
        int on(CallKeepers x);
    }

    private record Refused(String name, Call call) {
    }

    public static void main(String[] args) {
        Checks c = new Checks();
        for (States state : States.values()) {
            refusedIn(c, state);
            heardInVain(c, state);
        }
        badStandsBeforeNone(c);
        badStandsBeforeMissed(c);
        outcomesChangeTheirCountAlone(c);
        c.end();
    }

    private static void refusedIn(Checks c, States state) {
        String told = Checks.all(state.made());
        String later = later(state.made());
        for (Refused refused : all(state.made().count(2))) {
            String name = state + ": " + refused.name;
            CallKeepers x = state.made();
            c.due(name, refused.call.on(x), CallKeepers.BAD);
            c.unchanged(name, told, x);
            CallKeepers y = state.made();
            c.due(name + " again", refused.call.on(y) + refused.call.on(y), 2 * CallKeepers.BAD);
            c.due(name + " changed what came later", later.equals(later(y)) ? 0 : 1, 0);
        }
    }

    /** Calls that are not refused, and still change nothing: what only asks, and what was so already. */
    private static void heardInVain(Checks c, States state) {
        String later = later(state.made());
        CallKeepers x = state.made();
        askEachWay(x);
        c.due(state + ": asking changed what came later", later.equals(later(x)) ? 0 : 1, 0);
        CallKeepers y = state.made();
        for (int keeper = 0; keeper <= 3; keeper++) {
            boolean up = isUp(state, keeper);
            c.due(state + ": keeper " + keeper + " was so", y.keeper(keeper, up), 0);
        }
        for (int what = 0; what <= 5; what++) {
            int was = state.made().set(what, Checks.FIRST[what]);
            c.due(state + ": " + what + " was so", y.set(what, was), was);
        }
        c.due(state + ": what was so changed what came later", later.equals(later(y)) ? 0 : 1, 0);
    }

    private static void askEachWay(CallKeepers x) {
        int[] numbers = {0, 1, 7, 50};
        for (int number : numbers) {
            x.home(number);
            x.remembered(number);
            for (int what = 0; what <= 5; what++) {
                x.waits(number, what);
            }
        }
        for (int what = 0; what <= 6; what++) {
            x.kept(0, what);
            x.shape(0, what);
            x.step(what);
            x.count(what);
        }
        x.bound(1, 2, 0);
        x.bound(1, 2, 1);
        x.trace();
    }

    private static boolean isUp(States state, int keeper) {
        return state.made().keeper(keeper, true) == 0;
    }

    private static List<Refused> all(int kept) {
        List<Refused> list = new ArrayList<>();
        addKeepersAndNumbers(list);
        addSettings(list);
        addPieces(list);
        addPlaces(list, kept);
        addShares(list);
        return list;
    }

    private static void addKeepersAndNumbers(List<Refused> list) {
        int[] notKeepers = {Integer.MIN_VALUE, -1, 4, Integer.MAX_VALUE};
        for (int v : notKeepers) {
            list.add(new Refused("keeper " + v + " falls", x -> x.keeper(v, false)));
            list.add(new Refused("keeper " + v + " comes", x -> x.keeper(v, true)));
        }
        int[] notNumbers = {Integer.MIN_VALUE, -1, 100, Integer.MAX_VALUE};
        for (int v : notNumbers) {
            list.add(new Refused("home " + v, x -> x.home(v)));
            list.add(new Refused("waits " + v, x -> x.waits(v, 0)));
            list.add(new Refused("waits " + v + " of NONE", x -> x.waits(v, 4)));
            list.add(new Refused("remembered " + v, x -> x.remembered(v)));
        }
        int[] notTicks = {Integer.MIN_VALUE, -60, -1, 0, 61, Integer.MAX_VALUE};
        for (int v : notTicks) {
            list.add(new Refused("tick " + v, x -> x.tick(v)));
        }
    }

    private static void addSettings(List<Refused> list) {
        for (int what = 0; what <= 5; what++) {
            int asked = what;
            int[] off = {Integer.MIN_VALUE, -1, Checks.LEAST[what] - 1, Checks.GREATEST[what] + 1, Integer.MAX_VALUE};
            for (int v : off) {
                list.add(new Refused("set " + what + " to " + v, x -> x.set(asked, v)));
            }
        }
        int[] notSettings = {Integer.MIN_VALUE, -1, 6, Integer.MAX_VALUE};
        for (int v : notSettings) {
            list.add(new Refused("set " + v, x -> x.set(v, 1)));
        }
    }

    /** Each with numbers that would do something, were the wrong one not among them. */
    private static void addPieces(List<Refused> list) {
        boolean[] both = {false, true};
        for (boolean last : both) {
            int[] notNumbers = {Integer.MIN_VALUE, -1, 100, Integer.MAX_VALUE};
            for (int v : notNumbers) {
                list.add(new Refused("piece's number " + v, x -> x.piece(v, 0, last, 0, 1)));
            }
            int[] someNumbers = {0, 7, 1, 50};
            for (int number : someNumbers) {
                int[] notPieces = {Integer.MIN_VALUE, -1, 8, 32, Integer.MAX_VALUE};
                for (int v : notPieces) {
                    list.add(new Refused("piece " + v + " of " + number, x -> x.piece(number, v, last, 0, 1)));
                }
                int[] notShapes = {Integer.MIN_VALUE, -1, 5, Integer.MAX_VALUE};
                for (int v : notShapes) {
                    list.add(new Refused("shape " + v + " of " + number, x -> x.piece(number, 0, last, v, 1)));
                }
                int[] notLengths = {Integer.MIN_VALUE, -1, 0, 1001, Integer.MAX_VALUE};
                for (int v : notLengths) {
                    list.add(new Refused("length " + v + " of " + number, x -> x.piece(number, 0, last, 0, v)));
                }
            }
        }
    }

    private static void addPlaces(List<Refused> list, int kept) {
        int[] notPlaces = {Integer.MIN_VALUE, -1, kept, kept + 1, 20, Integer.MAX_VALUE};
        for (int v : notPlaces) {
            list.add(new Refused("take " + v, x -> x.take(v)));
            list.add(new Refused("kept " + v, x -> x.kept(v, 0)));
        }
        int[] far = {Integer.MIN_VALUE, -1, 14, Integer.MAX_VALUE};
        for (int v : far) {
            list.add(new Refused("what " + v + " in waits", x -> x.waits(7, v)));
            list.add(new Refused("what " + v + " in kept", x -> x.kept(0, v)));
            list.add(new Refused("what " + v + " in shape", x -> x.shape(0, v)));
            list.add(new Refused("shape " + v, x -> x.shape(v, 0)));
            list.add(new Refused("step " + v, x -> x.step(v)));
            list.add(new Refused("count " + v, x -> x.count(v)));
        }
        list.add(new Refused("what 6 in waits", x -> x.waits(7, 6)));
        list.add(new Refused("what 7 in kept", x -> x.kept(0, 7)));
        list.add(new Refused("what 7 in shape", x -> x.shape(0, 7)));
        list.add(new Refused("shape 5", x -> x.shape(5, 0)));
        list.add(new Refused("count 13", x -> x.count(13)));
    }

    private static void addShares(List<Refused> list) {
        int[] notB = {Integer.MIN_VALUE, -1, 0, 1001, Integer.MAX_VALUE};
        for (int v : notB) {
            list.add(new Refused("0 of " + v, x -> x.bound(0, v, 0)));
            list.add(new Refused("all of " + v, x -> x.bound(v, v, 1)));
        }
        int[] notA = {Integer.MIN_VALUE, -1, 6, Integer.MAX_VALUE};
        for (int v : notA) {
            list.add(new Refused(v + " of 5", x -> x.bound(v, 5, 0)));
        }
        int[] notWhat = {Integer.MIN_VALUE, -1, 2, Integer.MAX_VALUE};
        for (int v : notWhat) {
            list.add(new Refused("what " + v + " in bound", x -> x.bound(1, 2, v)));
        }
    }

    /** What a run of calls answers that looks into all that an object holds; under 300 calls. */
    private static String later(CallKeepers x) {
        StringBuilder told = new StringBuilder();
        for (int number = 0; number < 26; number++) {
            told.append(" p").append(x.piece(number, 1, false, 1, 3));
            told.append(" p").append(x.piece(number, 0, true, number % 5, 5));
        }
        told.append(" n").append(x.piece(50, 0, true, 0, 2)).append(x.piece(51, 0, true, 0, 2));
        told.append(" t").append(x.tick(1));
        for (int what = 0; what <= 12; what++) {
            told.append(" c").append(x.count(what));
        }
        for (int what = 0; what <= 5; what++) {
            told.append(" s").append(x.set(what, Checks.FIRST[what]));
        }
        for (int keeper = 0; keeper <= 3; keeper++) {
            told.append(" k").append(x.keeper(keeper, true));
        }
        for (int number = 60; number < 90; number++) {
            told.append(" q").append(x.piece(number, 0, number % 2 == 0, 0, 2 * number));
        }
        told.append(" t").append(x.tick(60));
        for (int number = 0; number < 26; number++) {
            told.append(" r").append(x.remembered(number)).append(x.home(number));
        }
        for (int i = 0; i < 21; i++) {
            told.append(" w").append(x.kept(0, 3)).append(' ').append(x.kept(0, 4)).append(' ').append(x.take(0));
        }
        for (int shape = 0; shape <= 4; shape++) {
            for (int what = 0; what <= 6; what++) {
                told.append(" h").append(x.shape(shape, what));
            }
        }
        for (int j = 0; j <= 13; j++) {
            told.append(" j").append(x.step(j));
        }
        return told.append(" b").append(x.bound(1, 2, 1)).append(" m").append(x.trace()).toString();
    }

    // NONE is an answer, so a number that is not as told comes first.
    private static void badStandsBeforeNone(Checks c) {
        CallKeepers x = new CallKeepers();
        c.due("nothing was DECIDED", x.bound(1, 1, 0), CallKeepers.NONE);
        c.due("a over b", x.bound(2, 1, 0), CallKeepers.BAD);
        c.due("b 0", x.bound(0, 0, 0), CallKeepers.BAD);
        c.due("what 2", x.bound(1, 1, 2), CallKeepers.BAD);
        c.due("does not WAIT", x.waits(1, 5), CallKeepers.NONE);
        c.due("what 6", x.waits(1, 6), CallKeepers.BAD);
        c.due("what -1", x.waits(1, -1), CallKeepers.BAD);
        c.due("was not DECIDED", x.remembered(99), CallKeepers.NONE);
        c.due("no such NUMBER", x.remembered(100), CallKeepers.BAD);
        CallKeepers down = States.ALL_DOWN.made();
        c.due("all are DOWN", down.home(99), CallKeepers.NONE);
        c.due("all are DOWN, no such NUMBER", down.home(100), CallKeepers.BAD);
        c.due("all are DOWN, no such NUMBER", down.home(-1), CallKeepers.BAD);
    }

    private static void badStandsBeforeMissed(Checks c) {
        States[] missing = {States.ALL_DOWN, States.FULL_HOUSE};
        for (States state : missing) {
            CallKeepers x = state.made();
            c.due(state + ": number", x.piece(100, 0, false, 0, 1), CallKeepers.BAD);
            c.due(state + ": piece", x.piece(50, 8, false, 0, 1), CallKeepers.BAD);
            c.due(state + ": shape", x.piece(50, 0, false, 5, 1), CallKeepers.BAD);
            c.due(state + ": length", x.piece(50, 0, false, 0, 1001), CallKeepers.BAD);
            c.due(state + ": none is counted as MISSED", x.count(9), 0);
            c.due(state + ": good numbers", x.piece(50, 0, false, 0, 1), CallKeepers.MISSED);
            c.due(state + ": that is counted", x.count(9), 1);
        }
    }

    // TWICE, ODD, DROPPED and MISSED are no refusals, but what they find stays as it is.
    private static void outcomesChangeTheirCountAlone(Checks c) {
        countAlone(c, States.LIVELY, x -> x.piece(0, 3, true, 1, 9), CallKeepers.TWICE, 5);
        countAlone(c, States.LIVELY, x -> x.piece(7, 3, false, 1, 9), CallKeepers.ODD, 6);
        countAlone(c, States.LIVELY, x -> x.piece(0, 2, true, 1, 9), CallKeepers.ODD, 6);
        countAlone(c, States.LIVELY, x -> x.piece(7, 1, true, 1, 9), CallKeepers.ODD, 6);
        countAlone(c, States.LIVELY, x -> x.piece(1, 0, true, 1, 9), CallKeepers.DROPPED, 8);
        countAlone(c, States.LIVELY, x -> x.piece(2, 1, true, 1, 9), CallKeepers.DROPPED, 8);
        countAlone(c, States.FULL_HOUSE, x -> x.piece(50, 1, false, 1, 9), CallKeepers.MISSED, 9);
        countAlone(c, States.FULL_HOUSE, x -> x.piece(50, 0, true, 1, 9), CallKeepers.MISSED, 9);
        countAlone(c, States.ALL_DOWN, x -> x.piece(1, 1, false, 1, 9), CallKeepers.MISSED, 9);
        countAlone(c, States.ALL_DOWN, x -> x.piece(50, 0, true, 1, 9), CallKeepers.MISSED, 9);
    }

    private static void countAlone(Checks c, States state, Call call, int outcome, int place) {
        CallKeepers x = state.made();
        int count = x.count(place);
        c.due(state + ": outcome", call.on(x), outcome);
        c.due(state + ": its count", x.count(place), count + 1);
        String before = withoutCount(Checks.all(state.made()), place);
        c.due(state + ": " + outcome + " changed more", before.equals(withoutCount(Checks.all(x), place)) ? 0 : 1, 0);
    }

    /** What Checks.all told, but for one of the counts, with which it begins. */
    private static String withoutCount(String told, int place) {
        String[] words = told.trim().split(" ");
        words[place] = "";
        return String.join(" ", words);
    }
}
