import java.util.ArrayList;
import java.util.Arrays;
import java.util.HashMap;
import java.util.HashSet;
import java.util.List;
import java.util.Map;
import java.util.Set;

/**
 * A second mill, written from the document in the plainest way and apart from the class: each call answers as a text,
 * an exception as throws.Name.
 */
final class Model {
    static final class Order {
        int kind;
        int width;
        int rolls;
        int tolerance;
        int quality;
        boolean shipped;
    }

    static final class Roll {
        int reel;
        int set;
        int column;
        int width;
        int widthAsCut;
        int flaw;
        int order;
        char state;
    }

    static final class Reel {
        int kind;
        int[][] map = new int[3][60];
        int[] shift = {-1, -1, -1};
    }

    private static final int NEVER = 1000000;
    private static final String PLACE = "throws.IndexOutOfBoundsException";
    private static final String NUMBER = "throws.IllegalArgumentException";
    private static final String STATE = "throws.IllegalStateException";
    private static final String NOT_NOW = "throws.UnsupportedOperationException";
    private static final String NONE = "throws.NoSuchElementException";
    private static final String SHARE = "throws.ArithmeticException";

    int deckle = 40;
    int knives = 6;
    int least = 0;
    int most = 10;
    final List<Order> orders = new ArrayList<>();
    final List<Reel> reels = new ArrayList<>();
    final List<Roll> rolls = new ArrayList<>();
    List<int[]> plan = null;
    int planKind = 0;
    final Set<Integer> usedPatterns = new HashSet<>();
    long pulp = 0;
    long broke = 0;
    int bruteForced = 0;

    String setMill(int d, int k, int l, int m) {
        if (d < 20 || d > 60 || k < 1 || k > 8 || l < 0 || l > 9 || m < l || m > 20) {
            return NUMBER;
        }
        if (!reels.isEmpty()) {
            return STATE;
        }
        int before = deckle;
        deckle = d;
        knives = k;
        least = l;
        most = m;
        plan = null;
        return "" + before;
    }

    String order(int kind, int width, int count, int tolerance, int quality) {
        if (kind < 0 || kind > 3 || width < 4 || width > 60 || width > deckle || count < 1 || count > 12
                || tolerance < 0 || tolerance > 3 || quality < 0 || quality > 3) {
            return NUMBER;
        }
        if (orders.size() == 6) {
            return STATE;
        }
        Order o = new Order();
        o.kind = kind;
        o.width = width;
        o.rolls = count;
        o.tolerance = tolerance;
        o.quality = quality;
        orders.add(o);
        plan = null;
        return "" + (orders.size() - 1);
    }

    String reel(int kind) {
        if (kind < 0 || kind > 3) {
            return NUMBER;
        }
        if (reels.size() == 12) {
            return STATE;
        }
        if (!reels.isEmpty()) {
            int up = 0;
            int at = reels.get(reels.size() - 1).kind;
            while (at != kind) {
                at = (at + 1) % 4;
                up++;
            }
            int spoilt = 2 * (up == 3 ? 1 : up);
            pulp += spoilt;
            broke += spoilt;
        }
        for (int i = 0; i < 3 * deckle; i++) {
            if (broke > 0) {
                broke--;
            } else {
                pulp++;
            }
        }
        Reel r = new Reel();
        r.kind = kind;
        reels.add(r);
        return "" + (reels.size() - 1);
    }

    String flaw(int reel, int set, int column, int flaw) {
        if (reel < 0 || reel >= reels.size() || set < 0 || set > 2 || column < 0 || column >= deckle) {
            return PLACE;
        }
        if (flaw < 1 || flaw > 3) {
            return NUMBER;
        }
        Reel r = reels.get(reel);
        if (r.shift[set] >= 0) {
            return NOT_NOW;
        }
        r.map[set][column] = Math.max(flaw, r.map[set][column]);
        return "" + r.map[set][column];
    }

    private List<int[]> allPatterns(int kind) {
        List<int[]> found = new ArrayList<>();
        collect(kind, 0, new int[orders.size()], found);
        found.sort((a, b) -> {
            for (int i = 0; i < a.length; i++) {
                if (a[i] != b[i]) {
                    return b[i] - a[i];
                }
            }
            return 0;
        });
        return found;
    }

    private void collect(int kind, int at, int[] counts, List<int[]> found) {
        int used = Arrays.stream(counts).sum();
        int trim = trimOf(counts);
        if (used > knives || trim < least) {
            return;
        }
        if (at == counts.length) {
            if (used > 0 && trim <= most) {
                found.add(counts.clone());
            }
            return;
        }
        Order o = orders.get(at);
        boolean open = o.kind == kind && !o.shipped;
        for (int n = 0; n <= (open ? knives : 0); n++) {
            counts[at] = n;
            collect(kind, at + 1, counts, found);
        }
        counts[at] = 0;
    }

    private int trimOf(int[] counts) {
        int columns = 0;
        for (int i = 0; i < counts.length; i++) {
            columns += counts[i] * orders.get(i).width;
        }
        return deckle - columns;
    }

    private int heldFor(int order) {
        int count = 0;
        for (Roll r : rolls) {
            count += r.state == 'h' && r.order == order ? 1 : 0;
        }
        return count;
    }

    private int[] limit(int kind, int sign) {
        int[] limits = new int[orders.size()];
        for (int i = 0; i < limits.length; i++) {
            Order o = orders.get(i);
            if (o.kind == kind && !o.shipped) {
                limits[i] = Math.max(0, o.rolls + sign * o.tolerance - heldFor(i));
            }
        }
        return limits;
    }

    String plan(int kind) {
        if (kind < 0 || kind > 3) {
            return NUMBER;
        }
        int[] low = limit(kind, -1);
        int[] high = limit(kind, 1);
        long states = 1;
        for (int h : high) {
            states *= h + 1;
        }
        if (states > 5000) {
            return NOT_NOW;
        }
        List<int[]> choices = new ArrayList<>();
        for (int[] p : allPatterns(kind)) {
            if (isBelow(p, high)) {
                choices.add(p);
            }
        }
        Map<String, Integer> known = new HashMap<>();
        for (int sets = 0; sets <= Arrays.stream(high).sum(); sets++) {
            int best = leastTrim(new int[high.length], sets, low, high, choices, known);
            if (best < NEVER) {
                plan = firstRow(sets, low, high, choices, known);
                if (Math.pow(choices.size(), sets) <= 20000) {
                    checkByForce(sets, low, high, choices);
                }
                planKind = kind;
                usedPatterns.clear();
                return "" + sets;
            }
        }
        return NONE;
    }

    private static boolean isBelow(int[] a, int[] b) {
        for (int i = 0; i < a.length; i++) {
            if (a[i] > b[i]) {
                return false;
            }
        }
        return true;
    }

    private static int[] sum(int[] a, int[] b) {
        int[] c = a.clone();
        for (int i = 0; i < c.length; i++) {
            c[i] += b[i];
        }
        return c;
    }

    /** The least trim of rows of just so many sets from what is made so far to enough of all orders. */
    private int leastTrim(int[] made, int sets, int[] low, int[] high, List<int[]> choices, Map<String, Integer> known) {
        if (sets == 0) {
            return isBelow(low, made) ? 0 : NEVER;
        }
        String key = sets + Arrays.toString(made);
        Integer old = known.get(key);
        if (old != null) {
            return old;
        }
        int best = NEVER;
        for (int[] p : choices) {
            int[] next = sum(made, p);
            if (isBelow(next, high)) {
                best = Math.min(best, trimOf(p) + leastTrim(next, sets - 1, low, high, choices, known));
            }
        }
        known.put(key, best);
        return best;
    }

    private List<int[]> firstRow(int sets, int[] low, int[] high, List<int[]> choices, Map<String, Integer> known) {
        List<int[]> row = new ArrayList<>();
        int[] made = new int[high.length];
        for (int left = sets; left > 0; left--) {
            int best = leastTrim(made, left, low, high, choices, known);
            for (int[] p : choices) {
                int[] next = sum(made, p);
                if (isBelow(next, high)
                        && trimOf(p) + leastTrim(next, left - 1, low, high, choices, known) == best) {
                    row.add(p);
                    made = next;
                    break;
                }
            }
        }
        return row;
    }

    /** All rows one by one, in their order: the first one with the least trim must be the plan. */
    private void checkByForce(int sets, int[] low, int[] high, List<int[]> choices) {
        int[] at = new int[sets];
        int best = NEVER;
        String found = "";
        boolean more = sets == 0 || !choices.isEmpty();
        while (more) {
            int[] made = new int[high.length];
            int trim = 0;
            StringBuilder text = new StringBuilder();
            for (int i : at) {
                made = sum(made, choices.get(i));
                trim += trimOf(choices.get(i));
                text.append(Arrays.toString(choices.get(i)));
            }
            if (isBelow(low, made) && isBelow(made, high) && trim < best) {
                best = trim;
                found = text.toString();
            }
            int last = sets - 1;
            while (last >= 0 && at[last] == choices.size() - 1) {
                at[last--] = 0;
            }
            if (last >= 0) {
                at[last]++;
            }
            more = last >= 0;
        }
        StringBuilder mine = new StringBuilder();
        for (int[] p : plan) {
            mine.append(Arrays.toString(p));
        }
        Check.same("the model's plan", found, mine.toString());
        bruteForced++;
    }

    String unused() {
        return "" + (plan == null ? 0 : plan.size() - usedPatterns.size());
    }

    String patternAt(int pattern, int order) {
        if (plan == null || pattern < 0 || pattern >= plan.size() || order < 0 || order >= orders.size()) {
            return PLACE;
        }
        return "" + plan.get(pattern)[order];
    }

    String trim() {
        if (plan == null) {
            return NONE;
        }
        int sum = 0;
        for (int[] p : plan) {
            sum += trimOf(p);
        }
        return "" + sum;
    }

    String bound(int kind) {
        if (kind < 0 || kind > 3) {
            return NUMBER;
        }
        int columns = 0;
        int[] low = limit(kind, -1);
        for (int i = 0; i < low.length; i++) {
            columns += low[i] * orders.get(i).width;
        }
        int sets = 0;
        while (sets * (deckle - least) < columns) {
            sets++;
        }
        return "" + sets;
    }

    String moves() {
        if (plan == null) {
            return NONE;
        }
        List<Set<Integer>> cuts = new ArrayList<>();
        for (int i = 0; i < plan.size(); i++) {
            if (!usedPatterns.contains(i)) {
                cuts.add(cutsOf(plan.get(i)));
            }
        }
        if (cuts.size() > 10) {
            return NOT_NOW;
        }
        return "" + fewestMoves(cuts, null, 0, NEVER);
    }

    private Set<Integer> cutsOf(int[] counts) {
        Set<Integer> ends = new HashSet<>();
        int column = 0;
        for (int i = 0; i < counts.length; i++) {
            for (int k = 0; k < counts[i]; k++) {
                column += orders.get(i).width;
                ends.add(column);
            }
        }
        return ends;
    }

    private static int fewestMoves(List<Set<Integer>> left, Set<Integer> last, int soFar, int best) {
        if (left.isEmpty() || soFar >= best) {
            return Math.min(soFar, best);
        }
        int found = best;
        for (int i = 0; i < left.size(); i++) {
            Set<Integer> next = left.remove(i);
            int moved = 0;
            if (last != null) {
                for (int c : next) {
                    moved += last.contains(c) ? 0 : 1;
                }
                for (int c : last) {
                    moved += next.contains(c) ? 0 : 1;
                }
            }
            found = fewestMoves(left, next, soFar + moved, found);
            left.add(i, next);
        }
        return found;
    }

    String cut(int reel, int set, int pattern) {
        if (reel < 0 || reel >= reels.size() || set < 0 || set > 2
                || plan == null || pattern < 0 || pattern >= plan.size()) {
            return PLACE;
        }
        Reel r = reels.get(reel);
        if (r.shift[set] >= 0 || usedPatterns.contains(pattern) || r.kind != planKind) {
            return NOT_NOW;
        }
        int[] counts = plan.get(pattern);
        if (rolls.size() + Arrays.stream(counts).sum() > 150) {
            return STATE;
        }
        List<Roll> best = null;
        int most = -1;
        for (int shift = 0; shift <= trimOf(counts); shift++) {
            List<Roll> laid = layRolls(reel, set, counts, shift);
            int good = countHeld(laid);
            if (good > most) {
                most = good;
                best = laid;
                r.shift[set] = shift;
            }
        }
        rolls.addAll(best);
        broke += trimOf(counts);
        usedPatterns.add(pattern);
        return "" + most;
    }

    private static int countHeld(List<Roll> laid) {
        int count = 0;
        for (Roll r : laid) {
            count += r.state == 'h' ? 1 : 0;
        }
        return count;
    }

    private List<Roll> layRolls(int reel, int set, int[] counts, int shift) {
        List<Roll> laid = new ArrayList<>();
        int column = shift;
        for (int i = 0; i < counts.length; i++) {
            for (int k = 0; k < counts[i]; k++) {
                Roll r = new Roll();
                r.reel = reel;
                r.set = set;
                r.column = column;
                r.width = orders.get(i).width;
                r.widthAsCut = r.width;
                r.flaw = greatest(r);
                boolean good = r.flaw <= orders.get(i).quality;
                r.order = good ? i : -1;
                r.state = good ? 'h' : 's';
                laid.add(r);
                column += r.width;
            }
        }
        return laid;
    }

    private int greatest(Roll r) {
        int[] columns = reels.get(r.reel).map[r.set];
        return Arrays.stream(columns, r.column, r.column + r.width).max().orElse(0);
    }

    String shift(int reel, int set) {
        if (reel < 0 || reel >= reels.size() || set < 0 || set > 2) {
            return PLACE;
        }
        int shift = reels.get(reel).shift[set];
        return shift < 0 ? NONE : "" + shift;
    }

    private boolean isRoll(int roll) {
        return roll >= 0 && roll < rolls.size();
    }

    String rollOf(int roll, char what) {
        if (!isRoll(roll)) {
            return PLACE;
        }
        Roll r = rolls.get(roll);
        int[] all = {r.reel, r.set, r.column, r.width, r.flaw, r.order};
        int at = "rscwfo".indexOf(what);
        return at < 0 ? NUMBER : "" + all[at];
    }

    String stateOf(int roll) {
        return isRoll(roll) ? "" + rolls.get(roll).state : PLACE;
    }

    String give(int roll, int order) {
        if (!isRoll(roll) || order < 0 || order >= orders.size()) {
            return PLACE;
        }
        Roll r = rolls.get(roll);
        Order o = orders.get(order);
        boolean free = r.state == 's' || r.state == 'h' && r.order != order;
        if (!free || o.shipped || reels.get(r.reel).kind != o.kind || r.width < o.width || r.flaw > o.quality) {
            return NOT_NOW;
        }
        int lost = r.width - o.width;
        broke += lost;
        r.width = o.width;
        r.order = order;
        r.state = 'h';
        plan = null;
        return "" + lost;
    }

    String held(int order) {
        return order < 0 || order >= orders.size() ? PLACE : "" + heldFor(order);
    }

    String ship(int order) {
        if (order < 0 || order >= orders.size()) {
            return PLACE;
        }
        Order o = orders.get(order);
        int count = heldFor(order);
        if (o.shipped || count < o.rolls - o.tolerance || count > o.rolls + o.tolerance) {
            return NOT_NOW;
        }
        for (Roll r : rolls) {
            if (r.state == 'h' && r.order == order) {
                r.state = 'x';
            }
        }
        o.shipped = true;
        plan = null;
        return "" + count;
    }

    String isShipped(int order) {
        return order < 0 || order >= orders.size() ? PLACE : "" + orders.get(order).shipped;
    }

    String claim(int roll) {
        return isRoll(roll) ? "" + greatest(rolls.get(roll)) : PLACE;
    }

    String patterns(int kind) {
        return kind < 0 || kind > 3 ? NUMBER : "" + allPatterns(kind).size();
    }

    String weight(char what) {
        long uncut = 0;
        for (Reel r : reels) {
            for (int s : r.shift) {
                uncut += s < 0 ? deckle : 0;
            }
        }
        long here = 0;
        long gone = 0;
        for (Roll r : rolls) {
            if (r.state == 'x') {
                gone += r.width;
            } else {
                here += r.width;
            }
        }
        long[] all = {pulp, broke, uncut, here, gone};
        int at = "pburx".indexOf(what);
        return at < 0 ? NUMBER : "" + all[at];
    }

    String yieldShare() {
        int sets = 0;
        for (Reel r : reels) {
            for (int s : r.shift) {
                sets += s < 0 ? 0 : 1;
            }
        }
        int columns = 0;
        for (Roll r : rolls) {
            columns += r.widthAsCut;
        }
        return sets == 0 ? SHARE : "" + (float) columns / (float) (sets * deckle);
    }

    String meanFlaw() {
        int sum = 0;
        for (Roll r : rolls) {
            sum += r.flaw;
        }
        return rolls.isEmpty() ? SHARE : "" + (double) sum / (double) rolls.size();
    }
}
