import java.util.NoSuchElementException;

/**
 * The ranges that the promises name, each from below the least value to above the greatest one, and far out; and each
 * other boundary that a promise names by itself. What is refused changes nothing, which Check looks at each time.
 */
public final class EdgeTest {
    private static final Class<?> NUMBER = IllegalArgumentException.class;
    private static final Class<?> STATE = IllegalStateException.class;
    private static final Class<?> PLACE = IndexOutOfBoundsException.class;
    private static final Class<?> NOT_NOW = UnsupportedOperationException.class;
    private static final Class<?> NONE = NoSuchElementException.class;
    private static final Class<?> SHARE = ArithmeticException.class;
    private static final Check.Maker NEW = Trimwinder::new;
    private static final Check.Maker BUSY = Mills::busy;
    private static final Check.Maker FULL = Mills::full;

    public static void main(String[] args) {
        aNewMillIsEmpty();
        setMillRanges();
        setMillReturnsTheDeckleBefore();
        setMillUntilThereIsAReel();
        orderRanges();
        orderAsWideAsTheDeckle();
        orderSixth();
        reelRangesAndTwelfth();
        flawRanges();
        flawUntilTheSetWasCut();
        planRange();
        planUpToFiveThousand();
        planCountsTheHeldOnes();
        planOfNothing();
        unusedDownToNone();
        patternAtRanges();
        trimOfFullSets();
        boundRange();
        movesUpToTen();
        cutRanges();
        cutUpToTheLastRoll();
        shiftRanges();
        rollsFromNoneToAll();
        rollOfRange();
        signsThatNothingBears();
        stateOfAndClaimRanges();
        giveRanges();
        giveEdges();
        orderNumbers();
        shipEdges();
        patternsRange();
        patternsEdges();
        weightsOfAFullMill();
        yieldShareEdges();
        meanFlawEdges();
        isSoundInEveryState();
        Check.end();
    }

    /** "Creates a mill without orders and reels." */
    private static void aNewMillIsEmpty() {
        Trimwinder mill = new Trimwinder();
        Check.same("1: rolls, unused and what it weighs", "0 0 0 0 0 0 0",
                mill.rolls() + " " + mill.unused() + " " + Mills.weights(mill));
        for (int i = 0; i < 4; i++) {
            int kind = i;
            Check.same("1: a plan without sets", 0, mill.plan(kind));
            Check.same("1: no patterns", 0, mill.patterns(kind));
            Check.same("1: no bound", 0, mill.bound(kind));
        }
        Check.changesNothing("1: no order 0", NEW, PLACE, m -> m.held(0));
        Check.changesNothing("1: no reel 0", NEW, PLACE, m -> m.shift(0, 0));
        Check.same("1: the first order", 0, new Trimwinder().order(0, 4, 1, 0, 0));
        Check.same("1: the first reel", 0, new Trimwinder().reel(0));
        Check.same("1: sound", true, new Trimwinder().isSound());
    }

    /** "the deckle, 20 to 60; the knives, 1 to 8; the least trim, 0 to 9; the most trim, the least one to 20" */
    private static void setMillRanges() {
        Check.range("2: the deckle", NEW, 20, 60, NUMBER, (m, i) -> m.setMill(i, 6, 0, 10));
        Check.range("2: the knives", NEW, 1, 8, NUMBER, (m, i) -> m.setMill(40, i, 0, 10));
        Check.range("2: the least trim", NEW, 0, 9, NUMBER, (m, i) -> m.setMill(40, 6, i, 20));
        for (int i = 0; i <= 9; i++) {
            int least = i;
            Check.range("2: the most trim above " + i, NEW, i, 20, NUMBER, (m, k) -> m.setMill(40, 6, least, k));
        }
        Check.range("2: the least trim below 5", NEW, 0, 5, NUMBER, (m, i) -> m.setMill(40, 6, i, 5));
    }

    private static void setMillReturnsTheDeckleBefore() {
        Trimwinder mill = new Trimwinder();
        Check.same("2: 40 at first", 40, mill.setMill(20, 1, 0, 0));
        Check.same("2: the least deckle", 20, mill.setMill(60, 8, 9, 20));
        Check.same("2: the greatest one", 60, mill.setMill(60, 8, 9, 9));
        Check.same("2: the refused one is not counted", "throws.IllegalArgumentException",
                Check.answer(() -> mill.setMill(61, 8, 9, 9)));
        Check.same("2: the same one", 60, mill.setMill(21, 1, 0, 0));
    }

    /** "if there is a reel": not orders, nor a plan. */
    private static void setMillUntilThereIsAReel() {
        Trimwinder mill = new Trimwinder();
        mill.order(0, 20, 2, 0, 0);
        mill.plan(0);
        Check.same("2: with an order and a plan", 40, mill.setMill(50, 6, 0, 10));
        mill.reel(3);
        Check.refused("2: with a reel", mill, STATE, () -> mill.setMill(50, 6, 0, 10));
        Check.refused("2: with a reel, and out of range", mill, NUMBER, () -> mill.setMill(50, 9, 0, 10));
        Check.changesNothing("2: in a full mill", FULL, STATE, m -> m.setMill(20, 1, 0, 0));
    }

    /** "the kind, 0 to 3; the width, 4 to 60; how many rolls, 1 to 12; the tolerance, 0 to 3; the quality, 0 to 3" */
    private static void orderRanges() {
        Check.Maker wide = () -> Mills.mill(60, 6, 0, 10);
        Check.range("3: the kind", NEW, 0, 3, NUMBER, (m, i) -> m.order(i, 20, 5, 1, 1));
        Check.range("3: the width", wide, 4, 60, NUMBER, (m, i) -> m.order(0, i, 5, 1, 1));
        Check.range("3: the rolls", NEW, 1, 12, NUMBER, (m, i) -> m.order(0, 20, i, 1, 1));
        Check.range("3: the tolerance", NEW, 0, 3, NUMBER, (m, i) -> m.order(0, 20, 5, i, 1));
        Check.range("3: the quality", NEW, 0, 3, NUMBER, (m, i) -> m.order(0, 20, 5, 1, i));
        Check.range("3: no rolls, in a full mill", FULL, 0, -1, NUMBER,
                (m, i) -> m.order(0, 20, i < 0 ? i : i + 13, 1, 1));
    }

    /** "or the width greater than the deckle" */
    private static void orderAsWideAsTheDeckle() {
        for (int deckle = 20; deckle <= 60; deckle += 8) {
            int d = deckle;
            Check.Maker maker = () -> Mills.mill(d, 6, 0, 10);
            Check.range("3: the width within " + d, maker, 4, d, NUMBER, (m, i) -> m.order(0, i, 5, 1, 1));
        }
        Check.range("3: the width within the first deckle", NEW, 4, 40, NUMBER, (m, i) -> m.order(0, i, 5, 1, 1));
        Trimwinder mill = Mills.mill(60, 6, 0, 10);
        mill.setMill(30, 6, 0, 10);
        Check.refused("3: the deckle that is set last counts", mill, NUMBER, () -> mill.order(0, 31, 1, 0, 0));
    }

    /** "if there are 6": the sixth one is taken, the seventh is not, though one may be shipped. */
    private static void orderSixth() {
        Trimwinder mill = new Trimwinder();
        for (int i = 0; i < 6; i++) {
            Check.same("3: the number", i, mill.order(i % 4, 20, 1, 1, 0));
        }
        Check.refused("3: the seventh", mill, STATE, () -> mill.order(0, 20, 1, 1, 0));
        mill.ship(0);
        Check.refused("3: the seventh when one is shipped", mill, STATE, () -> mill.order(0, 20, 1, 1, 0));
        Check.refused("3: the seventh out of range", mill, NUMBER, () -> mill.order(0, 3, 1, 1, 0));
    }

    /** "the kind, 0 to 3", "if there are 12" */
    private static void reelRangesAndTwelfth() {
        Check.range("4: the kind", NEW, 0, 3, NUMBER, (m, i) -> m.reel(i));
        Trimwinder mill = new Trimwinder();
        for (int i = 0; i < 12; i++) {
            Check.same("4: the number", i, mill.reel(i % 4));
        }
        Check.refused("4: the thirteenth", mill, STATE, () -> mill.reel(3));
        Check.refused("4: the thirteenth of another kind", mill, STATE, () -> mill.reel(0));
        Check.refused("4: the thirteenth of no kind", mill, NUMBER, () -> mill.reel(4));
        Check.refused("4: the thirteenth of no kind", mill, NUMBER, () -> mill.reel(-1));
    }

    /** "if there is no such reel, set or column", "if there is no such flaw" */
    private static void flawRanges() {
        Check.range("5: the reel", BUSY, 0, 1, PLACE, (m, i) -> m.flaw(i, 2, 0, 1));
        Check.range("5: the set", BUSY, 0, 2, PLACE, (m, i) -> m.flaw(1, i, 0, 1));
        Check.range("5: the flaw", BUSY, 1, 3, NUMBER, (m, i) -> m.flaw(1, 0, 0, i));
        for (int deckle = 20; deckle <= 60; deckle += 10) {
            int d = deckle;
            Check.Maker maker = () -> {
                Trimwinder mill = Mills.mill(d, 6, 0, 10);
                mill.reel(0);
                return mill;
            };
            Check.range("5: the column of " + d, maker, 0, d - 1, PLACE, (m, i) -> m.flaw(0, 0, i, 1));
            Check.range("5: the last set's column of " + d, maker, 0, d - 1, PLACE, (m, i) -> m.flaw(0, 2, i, 1));
        }
        Check.Maker all = () -> {
            Trimwinder mill = new Trimwinder();
            for (int i = 0; i < 12; i++) {
                mill.reel(0);
            }
            return mill;
        };
        Check.range("5: the reel of twelve", all, 0, 11, PLACE, (m, i) -> m.flaw(i, 2, 39, 3));
    }

    /** "if the set was cut": this one alone. */
    private static void flawUntilTheSetWasCut() {
        Check.changesNothing("5: cut", BUSY, NOT_NOW, m -> m.flaw(0, 0, 20, 1));
        Check.changesNothing("5: cut, and as it is", BUSY, NOT_NOW, m -> m.flaw(0, 0, 3, 2));
        Check.changesNothing("5: cut, and no flaw", BUSY, NUMBER, m -> m.flaw(0, 0, 20, 0));
        Check.changesNothing("5: cut, and no column", BUSY, PLACE, m -> m.flaw(0, 0, -1, 1));
        Trimwinder mill = Mills.busy();
        Check.same("5: the next set", 2, mill.flaw(0, 1, 20, 2));
        Check.same("5: the same set of the next reel", 3, mill.flaw(1, 0, 20, 3));
    }

    private static void planRange() {
        Check.range("6: the kind", NEW, 0, 3, NUMBER, (m, i) -> m.plan(i));
        Check.range("6: the kind in a crowded mill", Mills::crowded, 3, 3, NUMBER, (m, i) -> m.plan(i < 3 ? i - 3 : i));
    }

    /** "if the greatest numbers of rolls that may be made .., each 1 greater, multiplied, are above 5000" */
    private static void planUpToFiveThousand() {
        Check.same("6: 5000", "5000", plansOf(10, 10, 10, 5));
        Check.same("6: 5000 in another order", "5000", plansOf(5, 10, 10, 10));
        Check.same("6: 5000 of six orders", "5000", plansOf(5, 5, 5, 5, 4, 2));
        Check.same("6: 4992", "4992", plansOf(13, 12, 8, 4));
        Check.same("6: 5005 is above", "throws.UnsupportedOperationException", plansOf(13, 11, 7, 5));
        Check.same("6: 5040 of six orders", "throws.UnsupportedOperationException", plansOf(7, 6, 5, 4, 3, 2));
        Check.same("6: the greatest product", "throws.UnsupportedOperationException", plansOf(16, 16, 16, 16, 16, 16));
        Check.same("6: the greatest one of three orders", "4096", plansOf(16, 16, 16));
    }

    /** The product of orders that may make each one roll less than the factor, if they can be planned. */
    private static String plansOf(int... factors) {
        Trimwinder mill = Mills.mill(20, 1, 0, 20);
        int product = 1;
        int least = 0;
        for (int factor : factors) {
            int tolerance = factor > 13 ? factor - 13 : 0;
            mill.order(1, 20, factor - 1 - tolerance, tolerance, 0);
            product *= factor;
            least += factor - 1 - 2 * tolerance;
        }
        String sets = Check.answer(() -> mill.plan(1));
        return sets.equals("" + least) ? "" + product : sets;
    }

    /** "besides those held", and none may be made of an order that holds more already. */
    private static void planCountsTheHeldOnes() {
        Trimwinder mill = Mills.mill(60, 8, 0, 20);
        mill.order(0, 7, 8, 0, 0);
        mill.order(0, 7, 8, 2, 0);
        mill.reel(0);
        mill.plan(0);
        mill.cut(0, 0, 0);
        mill.order(0, 4, 12, 3, 0);
        mill.order(0, 4, 12, 3, 0);
        mill.order(0, 4, 8, 0, 0);
        Check.same("6: 8 are held for the first order", 8, mill.held(0));
        Check.refused("6: 1 by 11 by 16 by 16 by 9", mill, NOT_NOW, () -> mill.plan(0));
        Trimwinder more = Mills.mill(60, 8, 0, 20);
        more.order(0, 15, 4, 0, 0);
        more.reel(0);
        more.plan(0);
        more.cut(0, 0, 0);
        more.order(0, 10, 1, 0, 0);
        more.give(0, 1);
        more.give(1, 1);
        more.order(0, 10, 12, 3, 0);
        more.order(0, 10, 12, 3, 0);
        Check.same("6: 2 held of 4, and 2 held of 1: 3 by 1 by 16 by 16", 4, more.plan(0));
        Check.same("6: none of the order that holds too many", "0000", "" + more.patternAt(0, 1)
                + more.patternAt(1, 1) + more.patternAt(2, 1) + more.patternAt(3, 1));
        more.order(0, 10, 4, 0, 0);
        Check.same("6: by 5 is 3840, and 250 columns", 5, more.plan(0));
        more.order(0, 10, 1, 0, 0);
        Check.refused("6: by 2 is above", more, NOT_NOW, () -> more.plan(0));
    }

    /** "a plan without sets" is a plan. */
    private static void planOfNothing() {
        Trimwinder mill = Mills.busy();
        Check.same("6: no orders of the kind", 0, mill.plan(3));
        Check.same("6: its trim", 0, mill.trim());
        Check.same("6: its moves", 0, mill.moves());
        Check.same("6: none unused", 0, mill.unused());
        Check.refused("6: no pattern", mill, PLACE, () -> mill.patternAt(0, 0));
        Check.refused("6: no cut by the plan before", mill, PLACE, () -> mill.cut(0, 1, 1));
        Check.same("6: sound", true, mill.isSound());
    }

    private static void unusedDownToNone() {
        Trimwinder mill = Mills.wasteful(0, 12);
        for (int i = 0; i < 12; i++) {
            Check.same("7: unused before " + i, 12 - i, mill.unused());
            if (i % 3 == 0) {
                mill.reel(0);
            }
            mill.cut(i / 3, i % 3, 11 - i);
        }
        Check.same("7: none", 0, mill.unused());
        Check.same("7: the trim is still that of the whole plan", 192, mill.trim());
        Check.same("7: the patterns are still told", 1, mill.patternAt(11, 0));
        Check.same("7: no plan, none unused", 0, new Trimwinder().unused());
    }

    private static void patternAtRanges() {
        Check.range("8: the pattern", BUSY, 0, 1, PLACE, (m, i) -> m.patternAt(i, 0));
        Check.range("8: the order", BUSY, 0, 4, PLACE, (m, i) -> m.patternAt(0, i));
        Check.range("8: the order of six", FULL, 0, 5, PLACE, (m, i) -> m.patternAt(1, i));
        Check.range("8: the pattern of twelve", Mills::crowded, 0, 11, PLACE, (m, i) -> m.patternAt(i, 5));
        Check.range("8: the pattern of none", NEW, 0, -1, PLACE, (m, i) -> m.patternAt(i, 0));
        Trimwinder mill = Mills.busy();
        Check.same("8: another kind's and a shipped order's", "0 0 0", mill.patternAt(0, 2) + " "
                + mill.patternAt(0, 3) + " " + mill.patternAt(0, 4));
        Trimwinder full = Mills.full();
        Check.same("8: the greatest number of a pattern", 6, full.patternAt(0, 1));
        Check.same("8: the next pattern", "0 0 0 1 0 0", Mills.row(full, 1, 6));
    }

    private static void trimOfFullSets() {
        Trimwinder mill = Mills.mill(60, 1, 0, 20);
        mill.order(0, 60, 12, 0, 0);
        mill.plan(0);
        Check.same("9: no trim", 0, mill.trim());
        Trimwinder most = Mills.mill(60, 1, 9, 20);
        most.order(0, 40, 12, 0, 0);
        most.plan(0);
        Check.same("9: the most trim, 12 times", 240, most.trim());
        Trimwinder least = Mills.mill(60, 1, 9, 20);
        least.order(0, 51, 12, 0, 0);
        least.plan(0);
        Check.same("9: the least trim, 12 times", 108, least.trim());
        Check.changesNothing("9: no plan", NEW, NONE, m -> m.trim());
    }

    private static void boundRange() {
        Check.range("10: the kind", NEW, 0, 3, NUMBER, (m, i) -> m.bound(i));
        Check.range("10: the kind in a full mill", FULL, 0, 3, NUMBER, (m, i) -> m.bound(i));
        Trimwinder mill = Mills.mill(20, 8, 0, 0);
        for (int i = 0; i < 6; i++) {
            mill.order(0, 20, 12, 0, 0);
        }
        Check.same("10: the greatest one", 72, mill.bound(0));
        mill.setMill(60, 8, 9, 9);
        Check.same("10: 1440 by 51", 29, mill.bound(0));
        mill.setMill(20, 8, 9, 9);
        Check.same("10: 1440 by 11", 131, mill.bound(0));
    }

    /** "if more than 10 are not used" */
    private static void movesUpToTen() {
        for (int rolls = 1; rolls <= 12; rolls++) {
            Trimwinder mill = Mills.wasteful(0, rolls);
            String due = rolls > 10 ? "throws.UnsupportedOperationException" : "0";
            Check.same("11: " + rolls + " patterns", due, Check.answer(() -> mill.moves()));
        }
        Check.changesNothing("11: twelve", Mills::crowded, NOT_NOW, m -> m.moves());
        Trimwinder mill = Mills.crowded();
        mill.cut(0, 0, 11);
        Check.refused("11: eleven", mill, NOT_NOW, () -> mill.moves());
        mill.cut(0, 1, 0);
        Check.same("11: ten", 0, mill.moves());
        Check.changesNothing("11: no plan", NEW, NONE, m -> m.moves());
    }

    /** "if there is no such reel, set or pattern" */
    private static void cutRanges() {
        Check.range("12: the reel", () -> Mills.wasteful(0, 3), 0, -1, PLACE, (m, i) -> m.cut(i, 0, 0));
        Check.Maker two = () -> {
            Trimwinder mill = Mills.wasteful(0, 3);
            mill.reel(0);
            mill.reel(0);
            return mill;
        };
        Check.range("12: the reel of two", two, 0, 1, PLACE, (m, i) -> m.cut(i, 2, 2));
        Check.range("12: the set", two, 0, 2, PLACE, (m, i) -> m.cut(1, i, 1));
        Check.range("12: the pattern", two, 0, 2, PLACE, (m, i) -> m.cut(1, 2, i));
        Check.Maker all = () -> {
            Trimwinder mill = Mills.wasteful(3, 12);
            for (int i = 0; i < 12; i++) {
                mill.reel(3);
            }
            return mill;
        };
        Check.range("12: the reel of twelve", all, 0, 11, PLACE, (m, i) -> m.cut(i, 0, 11));
        Check.range("12: the pattern of twelve", all, 0, 11, PLACE, (m, i) -> m.cut(11, 2, i));
    }

    /** "if there would be more than 150 rolls": the 150th is cut, and a set with the 151st is not. */
    private static void cutUpToTheLastRoll() {
        Trimwinder mill = Mills.full();
        Check.same("12: 150", 150, mill.rolls());
        Check.same("12: the last one", "6 0 35 7 0 1 h", Mills.roll(mill, 149));
        Check.changesNothing("12: the 151st", FULL, STATE, m -> m.cut(6, 1, 1));
        Check.changesNothing("12: the 151st, and the set was cut", FULL, NOT_NOW, m -> m.cut(6, 0, 1));
        Check.changesNothing("12: the 151st, and no set", FULL, PLACE, m -> m.cut(6, 3, 1));
        Check.same("12: full and sound", true, mill.isSound());
    }

    /** "if there is no such reel or set", "if it was not cut" */
    private static void shiftRanges() {
        Check.range("13: the reel", FULL, 0, 6, PLACE, (m, i) -> m.shift(beyond(i), 0));
        Check.range("13: the set", FULL, 0, 2, PLACE, (m, i) -> m.shift(5, i));
        for (int i = 1; i < 18; i++) {
            int place = i + 18;
            Check.changesNothing("13: not cut", FULL, NONE, m -> m.shift(place / 3, place % 3));
        }
    }

    /** Of the numbers above 6, where the reels are that are not cut, those above 11. */
    private static int beyond(int number) {
        return number < 7 || number > 11 ? number : number + 5;
    }

    private static void rollsFromNoneToAll() {
        Check.same("14: none", 0, new Trimwinder().rolls());
        Check.same("14: three", 3, Mills.busy().rolls());
        Check.same("14: all", 150, Mills.full().rolls());
    }

    /** "if there is no such roll" */
    private static void rollOfRange() {
        for (char what : "rscwfo".toCharArray()) {
            Check.range("15: the roll's " + what, BUSY, 0, 2, PLACE, (m, i) -> m.rollOf(i, what));
            Check.range("15: none's " + what, NEW, 0, -1, PLACE, (m, i) -> m.rollOf(i, what));
        }
        Check.range("15: the roll of 150", FULL, 0, 149, PLACE, (m, i) -> m.rollOf(i, 'c'));
        Check.range("15: no such roll and no such thing", NEW, 0, -1, PLACE, (m, i) -> m.rollOf(i, 'q'));
    }

    /** "if there is no such thing": every sign that the document does not name. */
    private static void signsThatNothingBears() {
        Trimwinder mill = Mills.busy();
        String before = Check.shown(mill);
        StringBuilder ofRoll = new StringBuilder();
        StringBuilder ofMill = new StringBuilder();
        StringBuilder others = new StringBuilder();
        for (int i = Character.MIN_VALUE; i <= Character.MAX_VALUE; i++) {
            char what = (char) i;
            collect(what, Check.answer(() -> mill.rollOf(0, what)), ofRoll, others);
            collect(what, Check.answer(() -> mill.weight(what)), ofMill, others);
            String nowhere = Check.answer(() -> mill.rollOf(3, what));
            if (!nowhere.equals("throws.IndexOutOfBoundsException")) {
                others.append(nowhere);
            }
        }
        Check.same("15: all that a roll has", "cforsw", ofRoll.toString());
        Check.same("23: all that is weighed", "bprux", ofMill.toString());
        Check.same("15, 23: other exceptions", "", others.toString());
        Check.same("15, 23: every other answer", before, Check.shown(mill));
    }

    private static void collect(char what, String answer, StringBuilder taken, StringBuilder others) {
        if (!answer.startsWith("throws")) {
            taken.append(what);
        } else if (!answer.equals("throws.IllegalArgumentException")) {
            others.append(answer);
        }
    }

    private static void stateOfAndClaimRanges() {
        Check.range("16: none", NEW, 0, -1, PLACE, (m, i) -> m.stateOf(i));
        Check.range("16: the roll", BUSY, 0, 2, PLACE, (m, i) -> m.stateOf(i));
        Check.range("16: the roll of 150", FULL, 0, 149, PLACE, (m, i) -> m.stateOf(i));
        Check.range("21: none", NEW, 0, -1, PLACE, (m, i) -> m.claim(i));
        Check.range("21: the roll", BUSY, 0, 2, PLACE, (m, i) -> m.claim(i));
        Check.range("21: the roll of 150", FULL, 0, 149, PLACE, (m, i) -> m.claim(i));
        Trimwinder full = Mills.full();
        Check.same("16: the first and the last one", "sh", "" + full.stateOf(0) + full.stateOf(149));
        Check.same("16: the last but six", 's', full.stateOf(143));
        Check.same("16: the first of six", 'h', full.stateOf(144));
        Check.same("21: the flaw of the first and the last one", "1 0", full.claim(0) + " " + full.claim(149));
    }

    /** "if there is no such roll or order" */
    private static void giveRanges() {
        Check.Maker stock = () -> {
            Trimwinder mill = Mills.mill(60, 8, 0, 20);
            mill.order(0, 7, 8, 0, 0);
            mill.reel(0);
            Mills.spoil(mill, 0, 1);
            mill.plan(0);
            mill.cut(0, 1, 0);
            for (int i = 1; i < 6; i++) {
                mill.order(0, 7, 1, 0, 1);
            }
            return mill;
        };
        Check.range("17: the roll", stock, 0, 7, PLACE, (m, i) -> m.give(i, 5));
        Check.range("17: the order", stock, 1, 5, PLACE, (m, i) -> m.give(7, i < 1 ? i - 1 : i));
        Check.range("17: the roll for no order", stock, 0, -1, PLACE, (m, i) -> m.give(i, 6));
        Check.range("17: the roll of none", NEW, 0, -1, PLACE, (m, i) -> m.give(i, 0));
        Check.range("17: the order for no roll", stock, 0, -1, PLACE, (m, i) -> m.give(8, i));
        Check.changesNothing("17: beyond the quality", stock, NOT_NOW, m -> m.give(7, 0));
    }

    /** "cannot be given, or is held for this order" */
    private static void giveEdges() {
        Trimwinder mill = Mills.busy();
        Check.same("17: from an order with too few to one that has enough", 5, mill.give(1, 1));
        Check.refused("17: twice", mill, NOT_NOW, () -> mill.give(1, 1));
        Check.refused("17: back, but cut", mill, NOT_NOW, () -> mill.give(1, 0));
        Check.same("17: from stock", 5, mill.give(0, 1));
        Check.refused("17: from stock twice", mill, NOT_NOW, () -> mill.give(0, 1));
        mill.ship(1);
        for (int i = 0; i < 3; i++) {
            int roll = i;
            for (int k = 0; k < 5; k++) {
                int order = k;
                Check.refused("17: a shipped roll", mill, NOT_NOW, () -> mill.give(roll, order));
            }
        }
    }

    private static void orderNumbers() {
        Check.range("18: none", NEW, 0, -1, PLACE, (m, i) -> m.held(i));
        Check.range("18: the order", BUSY, 0, 4, PLACE, (m, i) -> m.held(i));
        Check.range("18: the order of six", FULL, 0, 5, PLACE, (m, i) -> m.held(i));
        Check.range("19: none", NEW, 0, -1, PLACE, (m, i) -> m.ship(i));
        Check.Maker ready = () -> {
            Trimwinder mill = new Trimwinder();
            for (int i = 0; i < 6; i++) {
                mill.order(i % 4, 10, 3, 3, i % 4);
            }
            return mill;
        };
        Check.range("19: the order of six", ready, 0, 5, PLACE, (m, i) -> m.ship(i));
        Check.range("20: none", NEW, 0, -1, PLACE, (m, i) -> m.isShipped(i));
        Check.range("20: the order", BUSY, 0, 4, PLACE, (m, i) -> m.isShipped(i));
        Check.range("20: the order of six", FULL, 0, 5, PLACE, (m, i) -> m.isShipped(i));
        Trimwinder full = Mills.full();
        Check.same("18: held in a full mill", "0 6 0 0 0 0", full.held(0) + " " + full.held(1) + " " + full.held(2)
                + " " + full.held(3) + " " + full.held(4) + " " + full.held(5));
        Check.same("20: shipped without rolls", "true false", full.isShipped(4) + " " + full.isShipped(5));
        Check.same("19: all that are held", 6, full.ship(1));
        Check.same("18: 0 if it is shipped", 0, full.held(1));
        Check.same("20: shipped with rolls", true, full.isShipped(1));
    }

    /** "at least the rolls less the tolerance and at most the rolls and the tolerance" */
    private static void shipEdges() {
        for (int rolls = 1; rolls <= 8; rolls++) {
            for (int tolerance = 0; tolerance <= 3; tolerance++) {
                Trimwinder mill = Mills.mill(40, 4, 0, 0);
                mill.order(0, 10, 4, 0, 0);
                mill.plan(0);
                mill.reel(0);
                mill.cut(0, 0, 0);
                mill.order(0, 10, rolls, tolerance, 0);
                for (int i = 0; i < 4; i++) {
                    mill.give(i, 1);
                }
                boolean fits = rolls - tolerance <= 4 && 4 <= rolls + tolerance;
                String what = "19: 4 for " + rolls + " with " + tolerance;
                if (fits) {
                    Check.same(what, 4, mill.ship(1));
                    Check.refused(what + ", twice", mill, NOT_NOW, () -> mill.ship(1));
                } else {
                    Check.refused(what, mill, NOT_NOW, () -> mill.ship(1));
                }
                Check.same(what + ", the order", fits, mill.isShipped(1));
            }
        }
        for (int rolls = 1; rolls <= 4; rolls++) {
            Trimwinder mill = new Trimwinder();
            mill.order(2, 10, rolls, 3, 0);
            String due = rolls <= 3 ? "0" : "throws.UnsupportedOperationException";
            Check.same("19: none for " + rolls + " with 3", due, Check.answer(() -> mill.ship(0)));
            Check.same("19: whether it is shipped", rolls <= 3, mill.isShipped(0));
        }
    }

    private static void patternsRange() {
        Check.range("22: the kind", NEW, 0, 3, NUMBER, (m, i) -> m.patterns(i));
        Check.range("22: the kind in a full mill", FULL, 0, 3, NUMBER, (m, i) -> m.patterns(i));
    }

    /** "the number of patterns of the orders of this kind that are not shipped" */
    private static void patternsEdges() {
        Trimwinder most = Mills.mill(60, 8, 0, 20);
        for (int i = 0; i < 6; i++) {
            most.order(0, 7, 1, 1, 0);
        }
        Check.same("22: 6, 7 or 8 of 6 orders", 462 + 792 + 1287, most.patterns(0));
        for (int i = 0; i < 6; i++) {
            most.ship(i);
        }
        Check.same("22: all are shipped", 0, most.patterns(0));
        Trimwinder edge = Mills.mill(20, 8, 0, 16);
        edge.order(0, 4, 1, 0, 0);
        Check.same("22: from 1 to 5 rolls", 5, edge.patterns(0));
        edge.setMill(20, 8, 0, 15);
        Check.same("22: not one", 4, edge.patterns(0));
        edge.setMill(20, 8, 0, 20);
        Check.same("22: nor none, though its trim would do", 5, edge.patterns(0));
        edge.setMill(20, 8, 1, 20);
        Check.same("22: nor five without a trim", 4, edge.patterns(0));
        edge.setMill(20, 4, 0, 20);
        Check.same("22: nor five by four knives", 4, edge.patterns(0));
    }

    private static void weightsOfAFullMill() {
        Check.same("23: nothing", "0 0 0 0 0", Mills.weights(new Trimwinder()));
        Trimwinder mill = Mills.full();
        // 18 sets leave 4 columns each, the 19th 18: all of that is broke, but what went into the reels 1 to 11.
        long pulp = mill.weight('p');
        long broke = mill.weight('b');
        Check.same("23: the sets that are not cut", 17L * 60, mill.weight('u'));
        Check.same("23: the rolls", 150L * 7, mill.weight('r'));
        Check.same("23: none shipped", 0L, mill.weight('x'));
        Check.same("23: pulp is all the rest", pulp, broke + 17 * 60 + 150 * 7);
        mill.ship(1);
        Check.same("23: shipped", 42L, mill.weight('x'));
        Check.same("23: no more here", 144L * 7, mill.weight('r'));
    }

    /** "if no set was cut" */
    private static void yieldShareEdges() {
        Check.changesNothing("24: no reel", NEW, SHARE, m -> m.yieldShare());
        Check.changesNothing("24: no set was cut", Mills::crowded, SHARE, m -> m.yieldShare());
        Check.same("24: one set", 0.95f, firstSet(20, 19).yieldShare());
        Check.same("24: all of it", 1f, firstSet(60, 60).yieldShare());
        Check.same("24: as little as may be", 4f / 24f, firstSet(24, 4).yieldShare());
        Trimwinder mill = Mills.full();
        Check.same("24: 19 sets", 1050f / 1140f, mill.yieldShare());
        Trimwinder bad = Mills.mill(40, 1, 0, 0);
        bad.order(0, 40, 1, 0, 0);
        bad.plan(0);
        bad.reel(0);
        bad.flaw(0, 0, 39, 1);
        Check.same("24: none good", 0, bad.cut(0, 0, 0));
        Check.same("24: stock counts too", 1f, bad.yieldShare());
    }

    /** A mill that cut one set of the deckle into one roll. */
    private static Trimwinder firstSet(int deckle, int width) {
        Trimwinder mill = Mills.mill(deckle, 1, 0, 20);
        mill.order(0, width, 1, 0, 0);
        mill.plan(0);
        mill.reel(0);
        mill.cut(0, 0, 0);
        return mill;
    }

    /** "if there are none" */
    private static void meanFlawEdges() {
        Check.changesNothing("25: no rolls", Mills::crowded, SHARE, m -> m.meanFlaw());
        Check.same("25: no flaw", 0.0, firstSet(20, 20).meanFlaw());
        Check.same("25: 144 of 150", 144.0 / 150.0, Mills.full().meanFlaw());
        Trimwinder mill = Mills.mill(40, 1, 0, 0);
        mill.order(0, 40, 1, 0, 3);
        mill.plan(0);
        mill.reel(0);
        mill.flaw(0, 0, 0, 3);
        mill.cut(0, 0, 0);
        Check.same("25: the greatest flaw", 3.0, mill.meanFlaw());
    }

    private static void isSoundInEveryState() {
        Check.same("26: new", true, new Trimwinder().isSound());
        Check.same("26: busy", true, Mills.busy().isSound());
        Check.same("26: crowded", true, Mills.crowded().isSound());
        Check.same("26: full", true, Mills.full().isSound());
        Trimwinder mill = Mills.full();
        mill.ship(1);
        Check.same("26: full and shipped", true, mill.isSound());
        Trimwinder given = Mills.busy();
        given.give(0, 1);
        given.give(1, 1);
        Check.same("26: given", true, given.isSound());
    }
}
