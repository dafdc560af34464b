import java.util.ArrayList;
import java.util.List;
import java.util.Map;
import java.util.TreeMap;
import java.util.TreeSet;

/**
 * The document once more, written as plainly as it can be: it keeps all that ever happened and
 * counts from that anew for each answer. Its methods take only what is not BAD.
 */
final class SlowModel {
    static final class Call {
        int number, shape, from, at, length, lengthAsDecided, weight, decidedIn;
        Integer last;
        boolean torn, out, fell, taken, left, waitsInFair;
        TreeSet<Integer> pieces = new TreeSet<>();
    }

    private final TreeSet<Integer> up = new TreeSet<>(List.of(0, 1, 2, 3));
    private final int[] rule = {3, 1000, 2, 1, 5, 3};
    private final Map<Integer, Call> waiting = new TreeMap<>();
    private final List<Call> history = new ArrayList<>();
    private final List<Call> row = new ArrayList<>();
    private final int[] became = new int[8];
    private int now, lost, moved;
    private long trace;

    int home(int number) {
        int best = -9;
        for (int k : up) {
            if (best == -9 || (7 * number + 5 * k) % 11 > (7 * number + 5 * best) % 11) {
                best = k;
            }
        }
        return best;
    }

    int keeper(int k, boolean comes) {
        if (up.contains(k) == comes) {
            return 0;
        }
        if (comes) {
            up.add(k);
        } else {
            up.remove(k);
            int before = waiting.size();
            waiting.values().removeIf(call -> call.at == k);
            lost += before - waiting.size();
        }
        for (Call call : waiting.values()) {
            moved += call.at == home(call.number) ? 0 : 1;
            call.at = home(call.number);
        }
        return 1;
    }

    int set(int what, int v) {
        int old = rule[what];
        rule[what] = v;
        for (Call call : history) {
            if (what == 0 && v != old && call.waitsInFair) {
                call.waitsInFair = false;
                call.left = true;
            }
        }
        return old;
    }

    int piece(int number, int piece, boolean last, int shape, int length) {
        int outcome = hear(number, piece, last, shape, length);
        became[outcome]++;
        return outcome;
    }

    private int hear(int number, int piece, boolean last, int shape, int length) {
        if (up.isEmpty()) {
            return CallKeepers.MISSED;
        }
        Call call = waiting.get(number);
        Call known = known(number);
        if (call == null && known != null) {
            boolean grows = row.contains(known) && now <= known.decidedIn + rule[5] && known.pieces.add(piece);
            known.length += grows ? length : 0;
            return grows ? CallKeepers.LATER : CallKeepers.DROPPED;
        }
        if (call == null && waiting.size() == 24) {
            return CallKeepers.MISSED;
        }
        if (call == null) {
            call = new Call();
            call.number = number;
            call.shape = shape;
            call.from = now;
            call.at = home(number);
            waiting.put(number, call);
        } else if (call.pieces.contains(piece)) {
            return CallKeepers.TWICE;
        } else if (call.last != null && (last || piece > call.last) || last && call.pieces.last() > piece) {
            return CallKeepers.ODD;
        }
        call.pieces.add(piece);
        call.length += length;
        call.last = last ? Integer.valueOf(piece) : call.last;
        if (call.last == null || call.pieces.size() != call.last + 1) {
            return CallKeepers.TAKEN_IN;
        }
        decide(call, false);
        return CallKeepers.WHOLE;
    }

    private Call known(int number) {
        Call newest = null;
        for (Call call : history) {
            newest = call.number == number ? call : newest;
        }
        return newest == null || newest.taken || newest.decidedIn + 50 <= now ? null : newest;
    }

    int tick(int n) {
        int before = history.size();
        for (int i = 0; i < n; i++) {
            now++;
            for (Call call : new ArrayList<>(waiting.values())) {
                if (call.from + rule[4] <= now) {
                    decide(call, true);
                }
            }
        }
        return history.size() - before;
    }

    private void decide(Call call, boolean torn) {
        waiting.remove(call.number);
        call.torn = torn;
        call.lengthAsDecided = call.length;
        call.decidedIn = now;
        call.weight = torn ? tornWeight(call) : rareWeight(call);
        history.add(call);
        if (call.weight > 0 && row.size() < 20) {
            row.add(call);
        } else {
            call.fell = call.weight > 0;
        }
    }

    private int tornWeight(Call call) {
        trace += 1000;
        call.out = rule[3] == 0;
        return call.out ? 0 : rareWeight(call);
    }

    private int rareWeight(Call call) {
        trace += 100;
        long before = history.stream().filter(old -> old.shape == call.shape).count();
        return before < rule[2] ? 1 : longWeight(call);
    }

    private int longWeight(Call call) {
        trace += 10;
        return call.length >= rule[1] ? 1 : fairWeight(call);
    }

    private int fairWeight(Call call) {
        trace += 1;
        List<Call> others = history.stream().filter(old -> old.shape == call.shape && old.waitsInFair).toList();
        call.waitsInFair = others.size() + 1 < rule[0];
        if (call.waitsInFair) {
            return 0;
        }
        others.forEach(old -> old.waitsInFair = false);
        return rule[0];
    }

    int waits(int number, int what) {
        Call call = waiting.get(number);
        if (call == null) {
            return CallKeepers.NONE;
        }
        int last = call.last == null ? CallKeepers.NONE : call.last;
        return new int[] {call.at, bits(call), call.shape, call.length, last, now - call.from}[what];
    }

    int remembered(int number) {
        Call call = known(number);
        return call == null ? CallKeepers.NONE : row.contains(call) ? 1 : 0;
    }

    int kept(int i, int what) {
        Call call = row.get(i);
        return new int[] {call.number, bits(call), call.shape, call.length, call.weight, call.torn ? 1 : 0,
            call.decidedIn}[what];
    }

    int keptSize() {
        return row.size();
    }

    int take(int i) {
        Call call = row.remove(i);
        call.taken = true;
        return call.number;
    }

    int shape(int shape, int what) {
        int sum = 0;
        for (Call call : history) {
            if (call.shape == shape) {
                sum += new int[] {1, row.contains(call) ? call.weight : 0, call.taken ? call.weight : 0,
                    call.fell ? call.weight : 0, call.out ? 1 : 0, call.waitsInFair ? 1 : 0, call.left ? 1 : 0}[what];
            }
        }
        return sum;
    }

    int step(int j) {
        int from = j == 0 ? 0 : 1 << (j - 1);
        return (int) history.stream()
            .filter(call -> call.lengthAsDecided >= from && call.lengthAsDecided < 1 << j).count();
    }

    int bound(int a, int b, int what) {
        int upTo = 0;
        for (int j = 0; j <= 13 && !history.isEmpty(); j++) {
            upTo += step(j);
            if (upTo * b >= a * history.size()) {
                return what == 1 ? 1 << j : j == 0 ? 0 : 1 << (j - 1);
            }
        }
        return CallKeepers.NONE;
    }

    int count(int what) {
        int torn = (int) history.stream().filter(call -> call.torn).count();
        return new int[] {now, waiting.size(), row.size(), lost, moved, became[3], became[4], became[5], became[6],
            became[7], history.size(), torn, up.size()}[what];
    }

    long trace() {
        return trace;
    }

    private static int bits(Call call) {
        int bits = 0;
        for (int piece : call.pieces) {
            bits += 1 << piece;
        }
        return bits;
    }
}
