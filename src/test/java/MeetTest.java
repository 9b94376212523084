import java.util.NoSuchElementException;

/** Where two sentences of the document meet: what one call leaves is what the next one begins with. */
public final class MeetTest {
    private static final Class<?> NUMBER = IllegalArgumentException.class;
    private static final Class<?> STATE = IllegalStateException.class;
    private static final Class<?> PLACE = IndexOutOfBoundsException.class;
    private static final Class<?> NOT_NOW = UnsupportedOperationException.class;
    private static final Class<?> NONE = NoSuchElementException.class;

    public static void main(String[] args) {
        aHalfUsedPlanIsTakenAwayAndMadeAnew();
        aPlanThatThrowsLeavesTheHalfUsedOne();
        aPlanThatStaysCutsMoreReels();
        aPlanWithoutSetsMeetsTheOtherCalls();
        aGivenRollIsCountedClaimedWeighedAndShipped();
        aRollGivenAwayIsPlannedAnew();
        moreThanAreWantedAreHeld();
        theMillIsToldAnewWithOrders();
        theMillIsToldAnewWithAShippedOrder();
        aShippedOrderIsStillAskedFor();
        allOrdersAreShipped();
        aTrimThatIsPutOnTheNextReel();
        fiveHundredAndTwelveCalls();
        Check.end();
    }

    /** Pattern 0 is used, then its flawed roll is given: the plan anew counts the rolls that are held. */
    private static void aHalfUsedPlanIsTakenAwayAndMadeAnew() {
        Trimwinder mill = Mills.busy();
        Check.same("one is used", "1 5", mill.unused() + " " + mill.trim());
        mill.give(0, 1);
        Check.refused("its second pattern is gone", mill, PLACE, () -> mill.cut(0, 1, 1));
        Check.same("two of the width 15 are wanted still", 1, mill.bound(0));
        Check.same("one set", 1, mill.plan(0));
        Check.same("two of the one, one of the other", "2 1 0 0 0", Mills.row(mill, 0, 5));
        Check.same("no trim, none is used", "0 1", mill.trim() + " " + mill.unused());
        Check.refused("set 0 was cut by the plan before", mill, NOT_NOW, () -> mill.cut(0, 0, 0));
        Check.same("three good ones, past the flaw", 3, mill.cut(0, 1, 0));
        Check.same("three and three", "3 3", mill.held(0) + " " + mill.held(1));
        Check.same("sound", true, mill.isSound());
    }

    /** "A method that throws an exception changes nothing": also no plan that is half used. */
    private static void aPlanThatThrowsLeavesTheHalfUsedOne() {
        Trimwinder mill = Mills.busy();
        Check.refused("no kind", mill, NUMBER, () -> mill.plan(4));
        Check.refused("no way", mill, NONE, () -> mill.plan(1));
        Check.same("pattern 1 alone is not used", "1 0", mill.unused() + " " + mill.moves());
        Check.refused("pattern 0 is used still", mill, NOT_NOW, () -> mill.cut(0, 1, 0));
        Check.same("pattern 1 is cut", 3, mill.cut(0, 1, 1));
        Trimwinder much = Mills.crowded();
        much.cut(0, 2, 5);
        Check.refused("too many rolls", much, NOT_NOW, () -> much.plan(1));
        Check.same("eleven of twelve", 11, much.unused());
        Check.refused("too many for the moves", much, NOT_NOW, () -> much.moves());
        much.cut(0, 0, 0);
        Check.same("ten alike", "10 0", much.unused() + " " + much.moves());
    }

    /** A plan is of a kind, and not of a reel: reels that come later are cut by it, in any order. */
    private static void aPlanThatStaysCutsMoreReels() {
        Trimwinder mill = Mills.wasteful(2, 5);
        mill.reel(2);
        mill.reel(1);
        mill.reel(2);
        Check.same("the last set first", 1, mill.cut(2, 2, 4));
        Check.refused("of another kind", mill, NOT_NOW, () -> mill.cut(1, 0, 0));
        Check.same("then the first one", 1, mill.cut(0, 0, 0));
        Check.same("by sets as they are cut", "2 2 0 4 0 0 h, 0 0 0 4 0 0 h",
                Mills.roll(mill, 0) + ", " + Mills.roll(mill, 1));
        Check.same("three are left, the trim is that of five", "3 80", mill.unused() + " " + mill.trim());
        Check.same("5 less 2 held, each of the width 4", 1, mill.bound(2));
        Check.same("cut anew for those", 3, mill.plan(2));
        Check.same("their trim alone", 48, mill.trim());
    }

    private static void aPlanWithoutSetsMeetsTheOtherCalls() {
        Trimwinder mill = Mills.cutTwice();
        mill.give(0, 1);
        mill.ship(mill.order(3, 4, 1, 1, 0));
        Check.same("its kind has one order, which is shipped", 0, mill.plan(3));
        Check.same("none used, no trim, no moves", "0 0 0", mill.unused() + " " + mill.trim() + " " + mill.moves());
        Check.refused("no pattern of a shipped order", mill, PLACE, () -> mill.patternAt(0, 3));
        mill.reel(3);
        Check.refused("nothing cuts a set", mill, PLACE, () -> mill.cut(1, 0, 0));
        Check.same("sound", true, mill.isSound());
        mill.give(0, mill.order(0, 5, 1, 0, 3));
        Check.refused("it is taken away too", mill, NONE, () -> mill.trim());
        mill.order(3, 10, 1, 1, 0);
        Check.same("none must be made of an order", 0, mill.plan(3));
        Check.same("so none is", "0 0", mill.trim() + " " + mill.bound(3));
        Trimwinder held = Mills.wasteful(0, 1);
        held.reel(0);
        held.cut(0, 0, 0);
        Check.same("all are held", 0, held.plan(0));
        Check.same("and can be shipped", 1, held.ship(0));
    }

    private static void aGivenRollIsCountedClaimedWeighedAndShipped() {
        Trimwinder mill = Mills.cutTwice();
        mill.order(0, 4, 1, 0, 2);
        mill.order(0, 4, 1, 0, 1);
        Check.same("as it was cut", "0 0 0 15 2 -1 s", Mills.roll(mill, 0));
        Check.same("parts", "120 5 40 75 0", Mills.weights(mill));
        Check.same("11 columns", 11, mill.give(0, 3));
        Check.same("held", "0 0 0 4 2 3 h", Mills.roll(mill, 0));
        Check.same("counted", "2 3 0 1 0", held(mill, 5));
        Check.same("column 3 is kept, with its flaw", 2, mill.claim(0));
        Check.same("weighed", "120 16 40 64 0", Mills.weights(mill));
        Check.refused("too bad for another one", mill, NOT_NOW, () -> mill.give(0, 4));
        Check.same("given from a held one", 11, mill.give(3, 4));
        Check.same("counted for the new one alone", "1 3 0 1 1", held(mill, 5));
        Check.same("weighed again", "120 27 40 53 0", Mills.weights(mill));
        Check.same("shipped", "1 1", mill.ship(3) + " " + mill.ship(4));
        Check.same("shipped ones are told", "0 0 0 4 2 3 x, 0 1 0 4 0 4 x",
                Mills.roll(mill, 0) + ", " + Mills.roll(mill, 3));
        Check.same("weighed as shipped", "120 27 40 45 8", Mills.weights(mill));
        Check.same("claimed", "2 0", mill.claim(0) + " " + mill.claim(3));
        Check.same("all rolls, the share and the mean", "6 0.9375 0.5",
                mill.rolls() + " " + mill.yieldShare() + " " + mill.meanFlaw());
        Check.same("sound", true, mill.isSound());
    }

    private static String held(Trimwinder mill, int orders) {
        StringBuilder text = new StringBuilder();
        for (int i = 0; i < orders; i++) {
            text.append(i == 0 ? "" : " ").append(mill.held(i));
        }
        return text.toString();
    }

    /** A roll that goes to another order is wanted again, and its width and broke are not what they were. */
    private static void aRollGivenAwayIsPlannedAnew() {
        Trimwinder mill = Mills.mill(40, 2, 0, 20);
        mill.order(0, 20, 2, 0, 0);
        mill.order(1, 20, 1, 0, 0);
        mill.plan(0);
        mill.reel(0);
        mill.cut(0, 0, 0);
        Check.same("nothing is wanted", 0, mill.bound(0));
        mill.order(0, 10, 1, 0, 0);
        Check.same("the new order is", 1, mill.bound(0));
        mill.give(1, 2);
        Check.same("now the one of the width 20", 1, mill.bound(0));
        Check.same("one set", 1, mill.plan(0));
        Check.same("one roll of it", "1 0 0", Mills.row(mill, 0, 3));
        Check.refused("a roll does not grow", mill, NOT_NOW, () -> mill.give(1, 0));
        mill.cut(0, 1, 0);
        Check.same("both can be shipped", "2 1", mill.ship(0) + " " + mill.ship(2));
        Check.same("what is shipped", "120 30 40 0 50", Mills.weights(mill));
        Check.same("as they were cut", 0.75f, mill.yieldShare());
    }

    /** "or none if there are more already" */
    private static void moreThanAreWantedAreHeld() {
        Trimwinder mill = Mills.cutTwice();
        mill.give(0, 1);
        Check.same("four for two and one", 4, mill.held(1));
        Check.refused("too many to ship", mill, NOT_NOW, () -> mill.ship(1));
        Check.same("one of the width 15 is wanted", 1, mill.bound(0));
        Check.refused("it leaves too much trim alone", mill, NONE, () -> mill.plan(0));
        mill.order(0, 20, 1, 0, 0);
        Check.same("but not beside a new one", 1, mill.plan(0));
        Check.same("none of the order that has more", "1 0 0 1", Mills.row(mill, 0, 4));
        Check.same("patterns count it all the same", 6, mill.patterns(0));
        mill.give(4, mill.order(0, 8, 1, 0, 0));
        Check.same("three can be shipped", 3, mill.ship(1));
    }

    /** Orders stay as they are, also those that are wider than the new deckle. */
    private static void theMillIsToldAnewWithOrders() {
        Trimwinder mill = Mills.mill(60, 8, 0, 20);
        mill.order(0, 60, 2, 1, 3);
        mill.order(0, 10, 4, 0, 3);
        Check.same("one of the width 60, and four of 10", 2, mill.plan(0));
        Check.same("bound and patterns", "2 4", mill.bound(0) + " " + mill.patterns(0));
        Check.same("the deckle before", 60, mill.setMill(21, 2, 1, 1));
        Check.refused("the plan is gone", mill, NONE, () -> mill.moves());
        Check.same("100 columns by 20, two of 10 alone", "5 1", mill.bound(0) + " " + mill.patterns(0));
        Check.refused("none of the width 60 can be made", mill, NONE, () -> mill.plan(0));
        Check.refused("nor can it be ordered", mill, NUMBER, () -> mill.order(0, 60, 1, 0, 3));
        Check.same("the deckle before that", 21, mill.setMill(60, 3, 0, 20));
        Check.refused("three of 10 leave 30 columns", mill, NONE, () -> mill.plan(0));
        mill.setMill(60, 4, 0, 20);
        Check.same("four of 10 leave 20", "2 20", mill.plan(0) + " " + mill.trim());
        mill.reel(1);
        Check.refused("no more after a reel", mill, STATE, () -> mill.setMill(60, 4, 0, 20));
        Check.same("which leaves the plan", 2, mill.unused());
        Check.same("sound", true, mill.isSound());
    }

    /** What is shipped without rolls stays shipped, and is not planned in the new mill. */
    private static void theMillIsToldAnewWithAShippedOrder() {
        Trimwinder mill = new Trimwinder();
        mill.order(0, 40, 2, 2, 0);
        mill.order(0, 20, 1, 0, 0);
        Check.same("no rolls are enough", 0, mill.ship(0));
        mill.setMill(20, 1, 0, 0);
        Check.same("the other one", "1 1 1", mill.plan(0) + " " + mill.bound(0) + " " + mill.patterns(0));
        Check.same("it alone", "0 1", Mills.row(mill, 0, 2));
        Check.same("shipped still", "true false", mill.isShipped(0) + " " + mill.isShipped(1));
        Check.refused("and not twice", mill, NOT_NOW, () -> mill.ship(0));
        mill.reel(0);
        mill.cut(0, 0, 0);
        Check.refused("nothing is given to it", mill, NOT_NOW, () -> mill.give(0, 0));
    }

    private static void aShippedOrderIsStillAskedFor() {
        Trimwinder mill = Mills.cutTwice();
        Check.same("three", 3, mill.ship(1));
        Check.same("held for it", "2 0 0", held(mill, 3));
        Check.same("it is shipped", true, mill.isShipped(1));
        Check.refused("not twice", mill, NOT_NOW, () -> mill.ship(1));
        Check.refused("the stock is not for it", mill, NOT_NOW, () -> mill.give(0, 1));
        Check.refused("its rolls are for no other", mill, NOT_NOW, () -> mill.give(2, 0));
        Check.refused("nor for itself", mill, NOT_NOW, () -> mill.give(2, 1));
        Check.same("patterns of order 0 alone: none", 0, mill.patterns(0));
        Check.same("the bound of one of the width 15", 1, mill.bound(0));
        mill.order(0, 10, 2, 0, 3);
        Check.same("two of the new order beside it", 1, mill.plan(0));
        Check.same("none of the shipped one", "1 0 0 2", Mills.row(mill, 0, 4));
        Check.refused("no such order", mill, PLACE, () -> mill.patternAt(0, 4));
        Check.same("the new rolls are held", 3, mill.cut(0, 2, 0));
        Check.same("none for the shipped one", "3 0 0 2", held(mill, 4));
        Check.same("all are shipped", "3 2", mill.ship(0) + " " + mill.ship(3));
        Check.same("but the stock", "120 10 0 15 95", Mills.weights(mill));
    }

    private static void allOrdersAreShipped() {
        Trimwinder mill = new Trimwinder();
        for (int i = 0; i < 6; i++) {
            mill.order(i % 4, 40, 3, 3, 0);
        }
        for (int i = 0; i < 6; i++) {
            Check.same("shipped " + i, 0, mill.ship(i));
        }
        Check.refused("no seventh", mill, STATE, () -> mill.order(0, 40, 1, 0, 0));
        for (int kind = 0; kind < 4; kind++) {
            Check.same("kind " + kind, "0 0 0", mill.patterns(kind) + " " + mill.bound(kind) + " " + mill.plan(kind));
        }
        Check.same("weights", "0 0 0 0 0", Mills.weights(mill));
        Check.same("sound", true, mill.isSound());
    }

    /** Trim, columns that are given away and spoilt paper are broke, and the next reel is made of it first. */
    private static void aTrimThatIsPutOnTheNextReel() {
        Trimwinder mill = Mills.cutTwice();
        Check.same("5 of trim", "120 5 40 75 0", Mills.weights(mill));
        mill.give(0, 1);
        mill.reel(0);
        Check.same("10 of it are broke", "230 0 160 70 0", Mills.weights(mill));
        mill.reel(2);
        Check.same("4 are spoilt, and used at once", "350 0 280 70 0", Mills.weights(mill));
        mill.reel(3);
        mill.reel(0);
        Check.same("2 and 2", "590 0 520 70 0", Mills.weights(mill));
        Trimwinder much = Mills.mill(20, 1, 0, 20);
        much.order(0, 4, 12, 0, 0);
        much.plan(0);
        for (int i = 0; i < 12; i++) {
            int reel = i % 3 == 0 ? much.reel(0) : i / 3;
            much.cut(reel, i % 3, i);
        }
        Check.same("48 from each reel, used by the next one", "96 48 0 48 0", Mills.weights(much));
        much.reel(1);
        Check.same("50 of broke, 10 of pulp", "108 0 60 48 0", Mills.weights(much));
        Check.same("sound", true, much.isSound() && mill.isSound());
    }

    /** As many calls as are promised, on a full mill; the last ones answer like the first ones. */
    private static void fiveHundredAndTwelveCalls() {
        Trimwinder mill = new Trimwinder();
        mill.setMill(60, 8, 0, 20);
        for (int i = 0; i < 6; i++) {
            mill.order(0, 5 + i, 3, 0, 0);
        }
        int calls = 7;
        for (; calls + 5 <= 511; calls += 5) {
            Check.same("plan after " + calls, 3, mill.plan(0));
            Check.same("moves after " + calls, 19, mill.moves());
            Check.same("trim after " + calls, 45, mill.trim());
            Check.same("patterns after " + calls, 1854, mill.patterns(0));
            Check.same("bound after " + calls, 3, mill.bound(0));
        }
        for (; calls < 512; calls++) {
            Check.same("sound after " + calls, true, mill.isSound());
        }
    }
}
