import java.util.NoSuchElementException;

/** A paper mill that winds wide reels, plans how sets of them are cut, cuts them, and ships the rolls. */
public final class Trimwinder {
    private static final int KINDS = 4;
    private static final int SETS = 3;
    private static final int MAX_DECKLE = 60;
    private static final int MAX_KNIVES = 8;
    private static final int MAX_ORDERS = 6;
    private static final int MAX_REELS = 12;
    private static final int MAX_ROLLS = 150;
    private static final int MAX_STATES = 5000;
    private static final int MAX_PATH = 10;
    private static final int SPOILT_A_STEP = 2;

    /** The ways to lay at most 8 rolls of 6 orders, the empty one too: 14 over 6. */
    private static final int MAX_LAYS = 3003;

    /** No plan makes more sets than rolls, and none of at most 5000 states makes more than 45 rolls. */
    private static final int MAX_PLAN = 64;

    /** A pack holds a number from 0 to 15 for each order, 5 bits apart, so that a guard bit stays free above each. */
    private static final int PACK_BITS = 5;
    private static final int PACK_MASK = 15;
    private static final int GUARDS = 0x21084210;

    /** A set counts more than all columns that can be left unmade, so that one number compares both. */
    private static final int SET_COST = 10000;
    private static final int NO_WAY = 1000000000;

    private static final int NOT_CUT = -1;
    private static final int STOCK = -1;

    private int deckle = 40;
    private int knives = 6;
    private int leastTrim = 0;
    private int mostTrim = 10;

    private final Order[] orders = new Order[MAX_ORDERS];
    private int orderCount = 0;
    private final Reel[] reels = new Reel[MAX_REELS];
    private int reelCount = 0;
    private final Roll[] wound = new Roll[MAX_ROLLS];
    private int rollCount = 0;

    private int pulp = 0;
    private int broke = 0;
    private int setsCut = 0;

    private Plan current = null;
    private final Lay lay = new Lay();

    /** Made when first needed and kept, so that a mill that never plans stays small. */
    private Planner planner = null;
    private KnifePath knifePath = null;

    public Trimwinder() {
    }

    public int setMill(int deckle, int knives, int least, int most)
            throws IllegalArgumentException, IllegalStateException {
        if (!isWithin(deckle, 20, MAX_DECKLE) || !isWithin(knives, 1, MAX_KNIVES)
                || !isWithin(least, 0, 9) || !isWithin(most, least, 20)) {
            throw new IllegalArgumentException("a number is out of range");
        }
        if (reelCount > 0) {
            throw new IllegalStateException("there is a reel");
        }
        int before = this.deckle;
        this.deckle = deckle;
        this.knives = knives;
        leastTrim = least;
        mostTrim = most;
        current = null;
        return before;
    }

    public int order(int kind, int width, int rolls, int tolerance, int quality)
            throws IllegalArgumentException, IllegalStateException {
        if (!isKind(kind) || !isWithin(width, 4, 60) || !isWithin(rolls, 1, 12)
                || !isWithin(tolerance, 0, 3) || !isWithin(quality, 0, 3) || width > deckle) {
            throw new IllegalArgumentException("a number is out of range");
        }
        int number = orderCount;
        if (number < 0 || number >= orders.length) {
            throw new IllegalStateException("there are 6 orders");
        }
        orders[number] = new Order(kind, width, rolls, tolerance, quality);
        orderCount = number + 1;
        current = null;
        return number;
    }

    public int reel(int kind) throws IllegalArgumentException, IllegalStateException {
        if (!isKind(kind)) {
            throw new IllegalArgumentException("there is no such kind");
        }
        int number = reelCount;
        if (number < 0 || number >= reels.length) {
            throw new IllegalStateException("there are 12 reels");
        }
        Reel before = reelAt(number - 1);
        if (before != null) {
            int spoilt = SPOILT_A_STEP * stepsBetween(before.kind, kind);
            pulp += spoilt;
            broke += spoilt;
        }
        int needed = SETS * deckle;
        int reused = Math.min(broke, needed);
        broke -= reused;
        pulp += needed - reused;
        reels[number] = new Reel(kind);
        reelCount = number + 1;
        return number;
    }

    public int flaw(int reel, int set, int column, int flaw)
            throws IndexOutOfBoundsException, IllegalArgumentException, UnsupportedOperationException {
        Reel told = reelAt(reel);
        if (told == null || !isSet(set) || !isWithin(column, 0, deckle - 1)) {
            throw new IndexOutOfBoundsException("there is no such reel, set or column");
        }
        if (!isWithin(flaw, 1, 3)) {
            throw new IllegalArgumentException("there is no such flaw");
        }
        if (told.wasCut(set)) {
            throw new UnsupportedOperationException("the set was cut");
        }
        return told.tell(set, column, flaw);
    }

    public int plan(int kind)
            throws IllegalArgumentException, UnsupportedOperationException, NoSuchElementException {
        if (!isKind(kind)) {
            throw new IllegalArgumentException("there is no such kind");
        }
        Planner search = readyPlanner();
        readNeeds(kind, search);
        if (search.countStates() > MAX_STATES) {
            throw new UnsupportedOperationException("too many rolls may be made");
        }
        gatherPatterns(search);
        search.solve();
        if (!search.isSolved()) {
            throw new NoSuchElementException("there is no plan");
        }
        Plan made = new Plan(kind, search.bestSets(), leastSets(kind));
        search.writeTo(made);
        made.trimInAll = search.bestSets() * deckle - search.bestColumns();
        current = made;
        return made.sets;
    }

    public int unused() {
        Plan now = current;
        return now == null ? 0 : now.countUnused();
    }

    public int patternAt(int pattern, int order) throws IndexOutOfBoundsException {
        Plan now = current;
        if (now == null || !now.has(pattern) || orderAt(order) == null) {
            throw new IndexOutOfBoundsException("there is no such pattern or order");
        }
        return countIn(now.packOf(pattern), order);
    }

    public int trim() throws NoSuchElementException {
        Plan now = current;
        if (now == null) {
            throw new NoSuchElementException("there is no plan");
        }
        return now.trimInAll;
    }

    public int bound(int kind) throws IllegalArgumentException {
        if (!isKind(kind)) {
            throw new IllegalArgumentException("there is no such kind");
        }
        return leastSets(kind);
    }

    public int moves() throws NoSuchElementException, UnsupportedOperationException {
        Plan now = current;
        if (now == null) {
            throw new NoSuchElementException("there is no plan");
        }
        if (now.countUnused() > MAX_PATH) {
            throw new UnsupportedOperationException("more than 10 patterns are not used");
        }
        KnifePath path = readyKnifePath();
        for (int i = 0; i < now.sets; i++) {
            if (!now.wasUsed(i)) {
                path.add(cutsOf(now.packOf(i)));
            }
        }
        return path.fewestMoves();
    }

    public int cut(int reel, int set, int pattern)
            throws IndexOutOfBoundsException, UnsupportedOperationException, IllegalStateException {
        Reel from = reelAt(reel);
        Plan now = current;
        if (from == null || !isSet(set) || now == null || !now.has(pattern)) {
            throw new IndexOutOfBoundsException("there is no such reel, set or pattern");
        }
        if (from.wasCut(set) || now.wasUsed(pattern) || from.kind != now.kind) {
            throw new UnsupportedOperationException("the set cannot be cut by the pattern");
        }
        int pack = now.packOf(pattern);
        if (rollCount + rollsIn(pack) > MAX_ROLLS) {
            throw new IllegalStateException("there would be more than 150 rolls");
        }
        int shifted = bestShift(reel, set, pack);
        from.markCut(set, shifted);
        now.markUsed(pattern);
        setsCut++;
        broke += deckle - columnsIn(pack);
        return windRolls(reel, set, pack, shifted, true);
    }

    public int shift(int reel, int set) throws IndexOutOfBoundsException, NoSuchElementException {
        Reel asked = reelAt(reel);
        if (asked == null || !isSet(set)) {
            throw new IndexOutOfBoundsException("there is no such reel or set");
        }
        if (!asked.wasCut(set)) {
            throw new NoSuchElementException("the set was not cut");
        }
        return asked.shiftOf(set);
    }

    public int rolls() {
        return rollCount;
    }

    public int rollOf(int roll, char what) throws IndexOutOfBoundsException, IllegalArgumentException {
        Roll asked = rollAt(roll);
        if (asked == null) {
            throw new IndexOutOfBoundsException("there is no such roll");
        }
        if (what == 'r') {
            return asked.reel;
        }
        if (what == 's') {
            return asked.set;
        }
        if (what == 'c') {
            return asked.column;
        }
        if (what == 'w') {
            return asked.width;
        }
        if (what == 'f') {
            return asked.flaw;
        }
        if (what == 'o') {
            return asked.order;
        }
        throw new IllegalArgumentException("there is no such thing");
    }

    public char stateOf(int roll) throws IndexOutOfBoundsException {
        Roll asked = rollAt(roll);
        if (asked == null) {
            throw new IndexOutOfBoundsException("there is no such roll");
        }
        return asked.state();
    }

    public int give(int roll, int order) throws IndexOutOfBoundsException, UnsupportedOperationException {
        Roll given = rollAt(roll);
        Order taker = orderAt(order);
        if (given == null || taker == null) {
            throw new IndexOutOfBoundsException("there is no such roll or order");
        }
        if (given.shipped || given.order == order || !isFit(given, taker)) {
            throw new UnsupportedOperationException("the roll cannot be given to the order");
        }
        int lost = given.width - taker.width;
        given.order = order;
        given.width = taker.width;
        broke += lost;
        current = null;
        return lost;
    }

    public int held(int order) throws IndexOutOfBoundsException {
        if (orderAt(order) == null) {
            throw new IndexOutOfBoundsException("there is no such order");
        }
        return countHeld(order);
    }

    public int ship(int order) throws IndexOutOfBoundsException, UnsupportedOperationException {
        Order sent = orderAt(order);
        if (sent == null) {
            throw new IndexOutOfBoundsException("there is no such order");
        }
        int count = countHeld(order);
        if (sent.shipped || !sent.isFilledBy(count)) {
            throw new UnsupportedOperationException("the order cannot be shipped");
        }
        for (int i = 0; i < rollCount; i++) {
            Roll one = rollAt(i);
            if (one != null && one.order == order) {
                one.shipped = true;
            }
        }
        sent.shipped = true;
        current = null;
        return count;
    }

    public boolean isShipped(int order) throws IndexOutOfBoundsException {
        Order asked = orderAt(order);
        if (asked == null) {
            throw new IndexOutOfBoundsException("there is no such order");
        }
        return asked.shipped;
    }

    public int claim(int roll) throws IndexOutOfBoundsException {
        Roll asked = rollAt(roll);
        if (asked == null) {
            throw new IndexOutOfBoundsException("there is no such roll");
        }
        return worstOf(asked.reel, asked.set, asked.column, asked.width);
    }

    public int patterns(int kind) throws IllegalArgumentException {
        if (!isKind(kind)) {
            throw new IllegalArgumentException("there is no such kind");
        }
        for (int i = 0; i < MAX_ORDERS; i++) {
            Order one = orderAt(i);
            boolean open = one != null && one.isOpen(kind);
            lay.allow(i, open ? one.width : 0, open ? knives : 0);
        }
        int count = 0;
        boolean more = lay.begin(knives, deckle - leastTrim);
        for (int i = 0; more && i < MAX_LAYS; i++) {
            if (lay.isPattern(mostTrim - leastTrim)) {
                count++;
            }
            more = lay.advance();
        }
        return count;
    }

    public long weight(char what) throws IllegalArgumentException {
        if (what == 'p') {
            return pulp;
        }
        if (what == 'b') {
            return broke;
        }
        if (what == 'u') {
            return uncutWeight();
        }
        if (what == 'r') {
            return rollWeight(false);
        }
        if (what == 'x') {
            return rollWeight(true);
        }
        throw new IllegalArgumentException("there is no such thing");
    }

    public float yieldShare() throws ArithmeticException {
        int columns = setsCut * deckle;
        if (columns <= 0) {
            throw new ArithmeticException("no set was cut");
        }
        int kept = 0;
        for (int i = 0; i < rollCount; i++) {
            Roll one = rollAt(i);
            kept += one == null ? 0 : one.cutWidth;
        }
        return (float) kept / (float) columns;
    }

    public double meanFlaw() throws ArithmeticException {
        if (rollCount <= 0) {
            throw new ArithmeticException("there are no rolls");
        }
        int sum = 0;
        for (int i = 0; i < rollCount; i++) {
            Roll one = rollAt(i);
            sum += one == null ? 0 : one.flaw;
        }
        return (double) sum / (double) rollCount;
    }

    public boolean isSound() {
        if (pulp != broke + uncutWeight() + rollWeight(false) + rollWeight(true)) {
            return false;
        }
        for (int i = 0; i < rollCount; i++) {
            Roll one = rollAt(i);
            if (one == null || !isTrue(one)) {
                return false;
            }
        }
        Plan now = current;
        return now == null || now.sets >= now.boundThen;
    }

    private static boolean isWithin(int number, int from, int to) {
        return number >= from && number <= to;
    }

    private static boolean isKind(int kind) {
        return isWithin(kind, 0, KINDS - 1);
    }

    private static boolean isSet(int set) {
        return isWithin(set, 0, SETS - 1);
    }

    private static int stepsBetween(int from, int to) {
        int steps = Math.floorMod(to - from, KINDS);
        return Math.min(steps, KINDS - steps);
    }

    private Order orderAt(int number) {
        return number >= 0 && number < orderCount && number < orders.length ? orders[number] : null;
    }

    private Reel reelAt(int number) {
        return number >= 0 && number < reelCount && number < reels.length ? reels[number] : null;
    }

    private Roll rollAt(int number) {
        return number >= 0 && number < rollCount && number < wound.length ? wound[number] : null;
    }

    private int countHeld(int order) {
        int count = 0;
        for (int i = 0; i < rollCount; i++) {
            Roll one = rollAt(i);
            if (one != null && one.order == order && !one.shipped) {
                count++;
            }
        }
        return count;
    }

    private int leastSets(int kind) {
        int columns = 0;
        for (int i = 0; i < orderCount; i++) {
            Order one = orderAt(i);
            if (one != null && one.isOpen(kind)) {
                columns += one.width * one.fewestToMake(countHeld(i));
            }
        }
        int room = deckle - leastTrim;
        return room > 0 ? (columns + room - 1) / room : 0;
    }

    private Planner readyPlanner() {
        Planner ready = planner;
        if (ready == null) {
            ready = new Planner();
            planner = ready;
        }
        return ready;
    }

    private void readNeeds(int kind, Planner search) {
        for (int i = 0; i < MAX_ORDERS; i++) {
            Order one = orderAt(i);
            if (one != null && one.isOpen(kind)) {
                int has = countHeld(i);
                search.need(i, one.width, one.fewestToMake(has), one.mostToMake(has));
                lay.allow(i, one.width, one.mostToMake(has));
            } else {
                search.need(i, 0, 0, 0);
                lay.allow(i, 0, 0);
            }
        }
    }

    private void gatherPatterns(Planner search) {
        search.forgetPatterns();
        boolean more = lay.begin(knives, deckle - leastTrim);
        for (int i = 0; more && i < MAX_LAYS; i++) {
            if (lay.isPattern(mostTrim - leastTrim)) {
                search.addPattern(lay.pack());
            }
            more = lay.advance();
        }
    }

    private KnifePath readyKnifePath() {
        KnifePath ready = knifePath;
        if (ready == null) {
            ready = new KnifePath();
            knifePath = ready;
        }
        ready.clear();
        return ready;
    }

    private static int countIn(int pack, int order) {
        return isWithin(order, 0, MAX_ORDERS - 1) ? pack >> order * PACK_BITS & PACK_MASK : 0;
    }

    private static int rollsIn(int pack) {
        int count = 0;
        for (int i = 0; i < MAX_ORDERS; i++) {
            count += countIn(pack, i);
        }
        return count;
    }

    private int columnsIn(int pack) {
        int columns = 0;
        for (int i = 0; i < orderCount; i++) {
            Order one = orderAt(i);
            columns += one == null ? 0 : one.width * countIn(pack, i);
        }
        return columns;
    }

    /** The columns at which a roll ends, a bit each: the deckle is less than a long is wide. */
    private long cutsOf(int pack) {
        long cuts = 0;
        int column = 0;
        for (int i = 0; i < orderCount; i++) {
            Order one = orderAt(i);
            if (one == null) {
                continue;
            }
            int count = countIn(pack, i);
            for (int k = 0; k < count; k++) {
                column += one.width;
                cuts |= 1L << column;
            }
        }
        return cuts;
    }

    private int bestShift(int reel, int set, int pack) {
        int free = deckle - columnsIn(pack);
        int best = 0;
        int most = -1;
        for (int shifted = 0; shifted <= free; shifted++) {
            int good = windRolls(reel, set, pack, shifted, false);
            if (good > most) {
                most = good;
                best = shifted;
            }
        }
        return best;
    }

    /** How many rolls are good at a shift: so a trial counts them just as the cut that is kept does. */
    private int windRolls(int reel, int set, int pack, int shifted, boolean kept) {
        int good = 0;
        int column = shifted;
        for (int i = 0; i < orderCount; i++) {
            Order one = orderAt(i);
            if (one == null) {
                continue;
            }
            int count = countIn(pack, i);
            for (int k = 0; k < count; k++) {
                int flaw = worstOf(reel, set, column, one.width);
                boolean isGood = flaw <= one.quality;
                if (kept) {
                    addRoll(new Roll(reel, set, column, one.width, flaw, isGood ? i : STOCK));
                }
                good += isGood ? 1 : 0;
                column += one.width;
            }
        }
        return good;
    }

    private void addRoll(Roll made) {
        int number = rollCount;
        if (number >= 0 && number < wound.length) {
            wound[number] = made;
            rollCount = number + 1;
        }
    }

    private boolean isFit(Roll given, Order taker) {
        Reel from = reelAt(given.reel);
        return from != null && taker.isOpen(from.kind)
                && given.width >= taker.width && given.flaw <= taker.quality;
    }

    private int worstOf(int reel, int set, int column, int width) {
        Reel from = reelAt(reel);
        return from == null ? 0 : from.worst(set, column, width);
    }

    private long uncutWeight() {
        return (long) (SETS * reelCount - setsCut) * deckle;
    }

    private long rollWeight(boolean shipped) {
        long columns = 0;
        for (int i = 0; i < rollCount; i++) {
            Roll one = rollAt(i);
            if (one != null && one.shipped == shipped) {
                columns += one.width;
            }
        }
        return columns;
    }

    private boolean isTrue(Roll one) {
        Order owner = orderAt(one.order);
        if (owner != null && one.flaw > owner.quality) {
            return false;
        }
        return one.width != one.cutWidth || one.flaw == worstOf(one.reel, one.set, one.column, one.width);
    }

    private static final class Order {
        final int kind;
        final int width;
        final int count;
        final int tolerance;
        final int quality;
        boolean shipped = false;

        Order(int kind, int width, int count, int tolerance, int quality) {
            this.kind = kind;
            this.width = width;
            this.count = count;
            this.tolerance = tolerance;
            this.quality = quality;
        }

        boolean isOpen(int ofKind) {
            return !shipped && kind == ofKind;
        }

        int fewestToMake(int has) {
            return Math.max(0, count - tolerance - has);
        }

        int mostToMake(int has) {
            return Math.max(0, count + tolerance - has);
        }

        boolean isFilledBy(int has) {
            return has >= count - tolerance && has <= count + tolerance;
        }
    }

    private static final class Reel {
        final int kind;
        private final int[] flaws = new int[SETS * MAX_DECKLE];
        private final int[] shifts = {NOT_CUT, NOT_CUT, NOT_CUT};

        Reel(int kind) {
            this.kind = kind;
        }

        boolean wasCut(int set) {
            return shiftOf(set) != NOT_CUT;
        }

        int shiftOf(int set) {
            return set >= 0 && set < shifts.length ? shifts[set] : NOT_CUT;
        }

        void markCut(int set, int shifted) {
            if (set >= 0 && set < shifts.length) {
                shifts[set] = shifted;
            }
        }

        int tell(int set, int column, int flaw) {
            int place = set * MAX_DECKLE + column;
            if (place < 0 || place >= flaws.length) {
                return 0;
            }
            flaws[place] = Math.max(flaws[place], flaw);
            return flaws[place];
        }

        int worst(int set, int first, int width) {
            int found = 0;
            for (int i = 0; i < width; i++) {
                int place = set * MAX_DECKLE + first + i;
                if (place >= 0 && place < flaws.length) {
                    found = Math.max(found, flaws[place]);
                }
            }
            return found;
        }
    }

    private static final class Roll {
        final int reel;
        final int set;
        final int column;
        final int cutWidth;
        final int flaw;
        int width;
        int order;
        boolean shipped = false;

        Roll(int reel, int set, int column, int width, int flaw, int order) {
            this.reel = reel;
            this.set = set;
            this.column = column;
            this.cutWidth = width;
            this.flaw = flaw;
            this.width = width;
            this.order = order;
        }

        char state() {
            if (shipped) {
                return 'x';
            }
            return order == STOCK ? 's' : 'h';
        }
    }

    private static final class Plan {
        final int kind;
        final int sets;
        final int boundThen;
        int trimInAll = 0;
        private final int[] packs = new int[MAX_PLAN];
        private final boolean[] used = new boolean[MAX_PLAN];

        Plan(int kind, int sets, int boundThen) {
            this.kind = kind;
            this.sets = sets;
            this.boundThen = boundThen;
        }

        boolean has(int pattern) {
            return pattern >= 0 && pattern < sets && pattern < packs.length && pattern < used.length;
        }

        void write(int pattern, int pack) {
            if (has(pattern)) {
                packs[pattern] = pack;
            }
        }

        int packOf(int pattern) {
            return has(pattern) ? packs[pattern] : 0;
        }

        void markUsed(int pattern) {
            if (has(pattern)) {
                used[pattern] = true;
            }
        }

        boolean wasUsed(int pattern) {
            return has(pattern) && used[pattern];
        }

        int countUnused() {
            int count = 0;
            for (int i = 0; i < sets; i++) {
                count += wasUsed(i) ? 0 : 1;
            }
            return count;
        }
    }

    /**
     * Goes through all ways to lay rolls side by side, those with more rolls of the lowest order first: so the
     * patterns come in the very order in which plans prefer them.
     */
    private static final class Lay {
        private final int[] widths = new int[MAX_ORDERS];
        private final int[] limits = new int[MAX_ORDERS];
        private final int[] counts = new int[MAX_ORDERS];
        private int freeRolls = 0;
        private int freeColumns = 0;

        void allow(int order, int width, int limit) {
            if (order >= 0 && order < MAX_ORDERS) {
                widths[order] = width;
                limits[order] = limit;
            }
        }

        boolean begin(int rolls, int columns) {
            freeRolls = rolls;
            freeColumns = columns;
            fillFrom(0);
            return true;
        }

        boolean advance() {
            for (int i = MAX_ORDERS - 1; i >= 0; i--) {
                if (counts[i] > 0) {
                    counts[i]--;
                    freeRolls++;
                    freeColumns += widths[i];
                    fillFrom(i + 1);
                    return true;
                }
            }
            return false;
        }

        private void fillFrom(int first) {
            for (int i = Math.max(0, first); i < MAX_ORDERS; i++) {
                int width = widths[i];
                int fits = width > 0 ? freeColumns / width : 0;
                int count = Math.min(fits, Math.min(limits[i], freeRolls));
                counts[i] = count;
                freeRolls -= count;
                freeColumns -= count * width;
            }
        }

        boolean isPattern(int mostFree) {
            return freeColumns <= mostFree && pack() != 0;
        }

        int pack() {
            int pack = 0;
            for (int i = 0; i < MAX_ORDERS; i++) {
                pack |= counts[i] << i * PACK_BITS;
            }
            return pack;
        }
    }

    /**
     * Finds the best plan by the numbers of rolls that may still be made of each order: a state is the mixed-radix
     * number of them, so that each pattern leads to a lower state, and the lower ones are known first. As all sets
     * are as wide as the deckle, of plans with as many sets that with the fewest columns left unmade has the least
     * trim.
     */
    private static final class Planner {
        private final int[] widths = new int[MAX_ORDERS];
        private final int[] fewest = new int[MAX_ORDERS];
        private final int[] most = new int[MAX_ORDERS];
        private final int[] packs = new int[MAX_LAYS];
        private final int[] steps = new int[MAX_LAYS];
        private final int[] costs = new int[MAX_STATES];
        private int patternCount = 0;
        private int top = 0;

        void need(int order, int width, int least, int greatest) {
            if (order >= 0 && order < MAX_ORDERS) {
                widths[order] = width;
                fewest[order] = least;
                most[order] = greatest;
            }
        }

        int countStates() {
            int states = 1;
            for (int i = 0; i < MAX_ORDERS; i++) {
                states *= most[i] + 1;
            }
            return states;
        }

        void forgetPatterns() {
            patternCount = 0;
        }

        void addPattern(int pack) {
            if (patternCount >= 0 && patternCount < MAX_LAYS) {
                packs[patternCount] = pack;
                steps[patternCount] = stateOfPack(pack);
                patternCount++;
            }
        }

        private int stateOfPack(int pack) {
            int state = 0;
            for (int i = 0; i < MAX_ORDERS; i++) {
                state = state * (most[i] + 1) + countIn(pack, i);
            }
            return state;
        }

        private int packOfState(int state) {
            int pack = 0;
            int rest = state;
            for (int i = MAX_ORDERS - 1; i >= 0; i--) {
                int base = most[i] + 1;
                if (base > 0) {
                    pack |= rest % base << i * PACK_BITS;
                    rest /= base;
                }
            }
            return pack;
        }

        void solve() {
            int states = Math.min(countStates(), MAX_STATES);
            top = states - 1;
            int spare = packOfSpare();
            for (int state = 0; state < states; state++) {
                int left = packOfState(state);
                costs[state] = fits(left, spare) ? columnsOf(left) : costByPattern(state, left);
            }
        }

        /** The rolls that need not be made: a state with no more of any order than these is a plan's end. */
        private int packOfSpare() {
            int pack = 0;
            for (int i = 0; i < MAX_ORDERS; i++) {
                pack |= most[i] - fewest[i] << i * PACK_BITS;
            }
            return pack;
        }

        /** A number that is too great borrows its guard bit from the other pack, and from no number beside it. */
        private static boolean fits(int inner, int outer) {
            return ((outer | GUARDS) - inner & GUARDS) == GUARDS;
        }

        private int costByPattern(int state, int left) {
            int found = NO_WAY;
            for (int i = 0; i < patternCount && i < MAX_LAYS; i++) {
                if (fits(packs[i], left)) {
                    found = Math.min(found, costOf(state - steps[i]));
                }
            }
            return found == NO_WAY ? NO_WAY : found + SET_COST;
        }

        private int costOf(int state) {
            return state >= 0 && state < MAX_STATES ? costs[state] : NO_WAY;
        }

        private int columnsOf(int pack) {
            int columns = 0;
            for (int i = 0; i < MAX_ORDERS; i++) {
                columns += widths[i] * countIn(pack, i);
            }
            return columns;
        }

        boolean isSolved() {
            return costOf(top) != NO_WAY;
        }

        int bestSets() {
            return costOf(top) / SET_COST;
        }

        int bestColumns() {
            return columnsOf(packOfState(top)) - costOf(top) % SET_COST;
        }

        void writeTo(Plan made) {
            int state = top;
            for (int i = 0; i < made.sets; i++) {
                int chosen = firstBest(state);
                if (chosen >= 0 && chosen < MAX_LAYS) {
                    made.write(i, packs[chosen]);
                    state -= steps[chosen];
                }
            }
        }

        private int firstBest(int state) {
            int left = packOfState(state);
            int rest = costOf(state) - SET_COST;
            for (int i = 0; i < patternCount && i < MAX_LAYS; i++) {
                if (fits(packs[i], left) && costOf(state - steps[i]) == rest) {
                    return i;
                }
            }
            return -1;
        }
    }

    /** Finds the order of at most 10 patterns that moves the fewest knives, by groups of patterns and their last one. */
    private static final class KnifePath {
        private final long[] cuts = new long[MAX_PATH];
        private final int[] fewest = new int[MAX_PATH << MAX_PATH];
        private int count = 0;

        void clear() {
            count = 0;
        }

        void add(long columns) {
            if (count >= 0 && count < MAX_PATH) {
                cuts[count] = columns;
                count++;
            }
        }

        int fewestMoves() {
            if (count < 2) {
                return 0;
            }
            int all = (1 << count) - 1;
            for (int group = 1; group <= all; group++) {
                for (int last = 0; last < count; last++) {
                    keep(group, last, movesTo(group, last));
                }
            }
            int found = NO_WAY;
            for (int last = 0; last < count; last++) {
                found = Math.min(found, known(all, last));
            }
            return found;
        }

        private int movesTo(int group, int last) {
            if ((group >> last & 1) == 0) {
                return NO_WAY;
            }
            int before = group ^ 1 << last;
            if (before == 0) {
                return 0;
            }
            int found = NO_WAY;
            for (int i = 0; i < count; i++) {
                if ((before >> i & 1) != 0) {
                    found = Math.min(found, known(before, i) + movesBetween(i, last));
                }
            }
            return found;
        }

        private int movesBetween(int one, int other) {
            boolean there = one >= 0 && one < MAX_PATH && other >= 0 && other < MAX_PATH;
            return there ? Long.bitCount(cuts[one] ^ cuts[other]) : 0;
        }

        private void keep(int group, int last, int moved) {
            int place = group * MAX_PATH + last;
            if (place >= 0 && place < fewest.length) {
                fewest[place] = moved;
            }
        }

        private int known(int group, int last) {
            int place = group * MAX_PATH + last;
            return place >= 0 && place < fewest.length ? fewest[place] : NO_WAY;
        }
    }
}
