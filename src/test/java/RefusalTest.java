import java.util.NoSuchElementException;

/**
 * "A method that throws an exception changes nothing. If several conditions of a method apply, the exception that is
 * listed first is thrown": each call that the document refuses, in an empty mill, a busy one, a crowded one and a full
 * one. All answers afterwards, and all that follows, are as in a mill that was never asked.
 */
public final class RefusalTest {
    private static final Class<?> NUMBER = IllegalArgumentException.class;
    private static final Class<?> STATE = IllegalStateException.class;
    private static final Class<?> PLACE = IndexOutOfBoundsException.class;
    private static final Class<?> NOT_NOW = UnsupportedOperationException.class;
    private static final Class<?> NONE = NoSuchElementException.class;
    private static final Class<?> SHARE = ArithmeticException.class;

    private final String state;
    private final Check.Maker maker;

    private RefusalTest(String state, Check.Maker maker) {
        this.state = state;
        this.maker = maker;
    }

    public static void main(String[] args) {
        theMillsAreAsTold();
        theEmptyMill(new RefusalTest("empty", Trimwinder::new));
        theMillWithOneReelAlone(new RefusalTest("one reel", RefusalTest::oneReel));
        RefusalTest busy = new RefusalTest("busy", Mills::busy);
        theBusyMillIsSetUp(busy);
        theBusyMillPlans(busy);
        theBusyMillCuts(busy);
        theBusyMillTellsOfRolls(busy);
        theBusyMillGivesAndShips(busy);
        theCrowdedMill(new RefusalTest("crowded", Mills::crowded));
        theMillWithoutAPlan(new RefusalTest("no plan", RefusalTest::planless));
        theMillThatShipped(new RefusalTest("shipped", RefusalTest::shipped));
        theMillWithTooMany(new RefusalTest("too many", RefusalTest::tooMany));
        theFullMillIsSetUp(new RefusalTest("full", Mills::full));
        theFullMillCuts(new RefusalTest("full", Mills::full));
        Check.end();
    }

    /** What the calls below rest on. */
    private static void theMillsAreAsTold() {
        Trimwinder busy = Mills.busy();
        Check.same("busy: its plan", "2 1 0 0 0, 1 2 0 0 0", Mills.rows(busy, 2, 5));
        Check.same("busy: unused", 1, busy.unused());
        Check.same("busy: roll 0", "0 0 0 15 2 -1 s", Mills.roll(busy, 0));
        Check.same("busy: roll 1", "0 0 15 15 0 0 h", Mills.roll(busy, 1));
        Check.same("busy: roll 2", "0 0 30 10 1 1 h", Mills.roll(busy, 2));
        Check.same("busy: order 3", true, busy.isShipped(3));
        Check.same("busy: what it weighs", "240 0 200 40 0", Mills.weights(busy));
        Trimwinder crowded = Mills.crowded();
        Check.same("crowded: unused", 12, crowded.unused());
        Check.same("crowded: trim", 144, crowded.trim());
        Trimwinder full = Mills.full();
        Check.same("full: rolls", 150, full.rolls());
        Check.same("full: its plan", "0 6 0 0 0 0, 0 0 0 1 0 0", Mills.rows(full, 2, 6));
        Check.same("full: unused", 1, full.unused());
        Check.same("full: order 4", true, full.isShipped(4));
        Check.same("too many: held", 4, tooMany().held(1));
        Check.same("shipped: held", 0, shipped().held(1));
        Check.same("no plan: unused", 0, planless().unused());
    }

    private void refuse(String what, Class<?> due, Check.Act act) {
        Check.changesNothing(state + ": " + what, maker, due, act);
    }

    private static Trimwinder oneReel() {
        Trimwinder mill = new Trimwinder();
        mill.reel(2);
        return mill;
    }

    private static Trimwinder planless() {
        Trimwinder mill = Mills.busy();
        mill.order(3, 40, 1, 0, 0);
        return mill;
    }

    /** The rolls 2, 4 and 5 are shipped with order 1; the plan is that of kind 2, without sets. */
    private static Trimwinder shipped() {
        Trimwinder mill = Mills.cutTwice();
        mill.order(0, 4, 1, 0, 3);
        mill.ship(1);
        mill.plan(2);
        return mill;
    }

    /** 4 rolls are held for order 1, which may have 3. */
    private static Trimwinder tooMany() {
        Trimwinder mill = Mills.cutTwice();
        mill.give(0, 1);
        mill.plan(3);
        return mill;
    }

    private static void theEmptyMill(RefusalTest empty) {
        empty.refuse("no reel to flaw", PLACE, m -> m.flaw(0, 0, 0, 1));
        empty.refuse("no reel, and no such flaw", PLACE, m -> m.flaw(0, 0, 0, 0));
        empty.refuse("no pattern", PLACE, m -> m.patternAt(0, 0));
        empty.refuse("no trim", NONE, m -> m.trim());
        empty.refuse("no moves", NONE, m -> m.moves());
        empty.refuse("no cut", PLACE, m -> m.cut(0, 0, 0));
        empty.refuse("no shift", PLACE, m -> m.shift(0, 0));
        empty.refuse("no roll", PLACE, m -> m.rollOf(0, 'r'));
        empty.refuse("no roll, and no such thing", PLACE, m -> m.rollOf(0, 'q'));
        empty.refuse("no state", PLACE, m -> m.stateOf(0));
        empty.refuse("no give", PLACE, m -> m.give(0, 0));
        empty.refuse("none held", PLACE, m -> m.held(0));
        empty.refuse("no ship", PLACE, m -> m.ship(0));
        empty.refuse("none is shipped", PLACE, m -> m.isShipped(0));
        empty.refuse("no claim", PLACE, m -> m.claim(0));
        empty.refuse("no share", SHARE, m -> m.yieldShare());
        empty.refuse("no mean", SHARE, m -> m.meanFlaw());
        empty.refuse("no such kind to plan", NUMBER, m -> m.plan(4));
        empty.refuse("no such weight", NUMBER, m -> m.weight('q'));
    }

    private static void theMillWithOneReelAlone(RefusalTest one) {
        one.refuse("set", STATE, m -> m.setMill(40, 6, 0, 10));
        one.refuse("no pattern", PLACE, m -> m.cut(0, 0, 0));
        one.refuse("not cut", NONE, m -> m.shift(0, 0));
        one.refuse("no second reel", PLACE, m -> m.shift(1, 0));
        one.refuse("no share", SHARE, m -> m.yieldShare());
        one.refuse("no mean", SHARE, m -> m.meanFlaw());
    }

    private static void theBusyMillIsSetUp(RefusalTest busy) {
        busy.refuse("set alike", STATE, m -> m.setMill(40, 4, 0, 6));
        busy.refuse("set otherwise", STATE, m -> m.setMill(60, 8, 9, 20));
        busy.refuse("set out of range first", NUMBER, m -> m.setMill(61, 4, 0, 6));
        busy.refuse("most below least first", NUMBER, m -> m.setMill(40, 4, 7, 6));
        busy.refuse("no such kind", NUMBER, m -> m.order(4, 20, 1, 0, 0));
        busy.refuse("too wide for the deckle", NUMBER, m -> m.order(0, 41, 1, 0, 0));
        busy.refuse("no such reel's kind", NUMBER, m -> m.reel(4));
        busy.refuse("no such reel's kind", NUMBER, m -> m.reel(-1));
        busy.refuse("no reel to flaw", PLACE, m -> m.flaw(2, 0, 0, 1));
        busy.refuse("no set to flaw", PLACE, m -> m.flaw(0, 3, 0, 1));
        busy.refuse("no column to flaw", PLACE, m -> m.flaw(0, 2, 40, 1));
        busy.refuse("no column of a set that was cut", PLACE, m -> m.flaw(0, 0, 40, 1));
        busy.refuse("no column, no flaw, and cut", PLACE, m -> m.flaw(0, 0, 40, 4));
        busy.refuse("no such flaw", NUMBER, m -> m.flaw(0, 2, 0, 4));
        busy.refuse("no such flaw, and cut", NUMBER, m -> m.flaw(0, 0, 0, 0));
        busy.refuse("cut before", NOT_NOW, m -> m.flaw(0, 0, 0, 3));
        busy.refuse("cut before, where a flaw is", NOT_NOW, m -> m.flaw(0, 0, 3, 1));
    }

    private static void theBusyMillPlans(RefusalTest busy) {
        busy.refuse("no such kind", NUMBER, m -> m.plan(4));
        busy.refuse("30 of 40", NONE, m -> m.plan(1));
        busy.refuse("no third pattern", PLACE, m -> m.patternAt(2, 0));
        busy.refuse("no sixth order", PLACE, m -> m.patternAt(0, 5));
        busy.refuse("neither", PLACE, m -> m.patternAt(2, 5));
        busy.refuse("no bound", NUMBER, m -> m.bound(4));
        busy.refuse("no patterns", NUMBER, m -> m.patterns(4));
    }

    private static void theBusyMillCuts(RefusalTest busy) {
        busy.refuse("no third reel", PLACE, m -> m.cut(2, 0, 1));
        busy.refuse("no fourth set", PLACE, m -> m.cut(0, 3, 1));
        busy.refuse("no third pattern", PLACE, m -> m.cut(0, 1, 2));
        busy.refuse("no third pattern, and cut before", PLACE, m -> m.cut(0, 0, 2));
        busy.refuse("no third pattern, and another kind", PLACE, m -> m.cut(1, 0, 2));
        busy.refuse("no fourth set, and used", PLACE, m -> m.cut(0, 3, 0));
        busy.refuse("cut before", NOT_NOW, m -> m.cut(0, 0, 1));
        busy.refuse("used", NOT_NOW, m -> m.cut(0, 1, 0));
        busy.refuse("another kind", NOT_NOW, m -> m.cut(1, 0, 1));
        busy.refuse("another kind, and used", NOT_NOW, m -> m.cut(1, 0, 0));
        busy.refuse("cut before, and used", NOT_NOW, m -> m.cut(0, 0, 0));
        busy.refuse("no third reel's shift", PLACE, m -> m.shift(2, 0));
        busy.refuse("no fourth set's shift", PLACE, m -> m.shift(0, 3));
        busy.refuse("not cut", NONE, m -> m.shift(0, 1));
    }

    private static void theBusyMillTellsOfRolls(RefusalTest busy) {
        busy.refuse("no fourth roll", PLACE, m -> m.rollOf(3, 'r'));
        busy.refuse("no fourth roll, and no such thing", PLACE, m -> m.rollOf(3, 'q'));
        busy.refuse("no such thing", NUMBER, m -> m.rollOf(0, 'q'));
        busy.refuse("no fourth roll's state", PLACE, m -> m.stateOf(3));
        busy.refuse("no fourth roll's claim", PLACE, m -> m.claim(3));
        busy.refuse("no such weight", NUMBER, m -> m.weight('q'));
    }

    private static void theBusyMillGivesAndShips(RefusalTest busy) {
        busy.refuse("no fourth roll", PLACE, m -> m.give(3, 0));
        busy.refuse("no sixth order", PLACE, m -> m.give(0, 5));
        busy.refuse("neither", PLACE, m -> m.give(3, 5));
        busy.refuse("no fourth roll for a shipped order", PLACE, m -> m.give(3, 3));
        busy.refuse("the flaw", NOT_NOW, m -> m.give(0, 0));
        busy.refuse("held for it", NOT_NOW, m -> m.give(1, 0));
        busy.refuse("another kind", NOT_NOW, m -> m.give(1, 4));
        busy.refuse("too narrow", NOT_NOW, m -> m.give(2, 0));
        busy.refuse("to a shipped order", NOT_NOW, m -> m.give(1, 3));
        busy.refuse("stock to a shipped order", NOT_NOW, m -> m.give(0, 3));
        busy.refuse("no sixth order holds", PLACE, m -> m.held(5));
        busy.refuse("no sixth order ships", PLACE, m -> m.ship(5));
        busy.refuse("no sixth order is shipped", PLACE, m -> m.isShipped(5));
        busy.refuse("too few", NOT_NOW, m -> m.ship(0));
        busy.refuse("none of two", NOT_NOW, m -> m.ship(4));
        busy.refuse("shipped", NOT_NOW, m -> m.ship(3));
    }

    private static void theCrowdedMill(RefusalTest crowded) {
        crowded.refuse("12 are not used", NOT_NOW, m -> m.moves());
        crowded.refuse("too many rolls", NOT_NOW, m -> m.plan(1));
        crowded.refuse("no pattern", NONE, m -> m.plan(2));
        crowded.refuse("a seventh order", STATE, m -> m.order(0, 8, 1, 0, 0));
        crowded.refuse("a seventh order out of range", NUMBER, m -> m.order(0, 8, 13, 0, 0));
        crowded.refuse("no rolls", SHARE, m -> m.meanFlaw());
    }

    private static void theMillWithoutAPlan(RefusalTest planless) {
        planless.refuse("no pattern", PLACE, m -> m.patternAt(0, 0));
        planless.refuse("no trim", NONE, m -> m.trim());
        planless.refuse("no moves", NONE, m -> m.moves());
        planless.refuse("no cut", PLACE, m -> m.cut(0, 1, 1));
        planless.refuse("no cut of a set that was cut", PLACE, m -> m.cut(0, 0, 0));
        planless.refuse("30 of 40", NONE, m -> m.plan(1));
    }

    private static void theMillThatShipped(RefusalTest shipped) {
        shipped.refuse("twice", NOT_NOW, m -> m.ship(1));
        shipped.refuse("a shipped roll", NOT_NOW, m -> m.give(2, 3));
        shipped.refuse("a shipped roll to its own order", NOT_NOW, m -> m.give(2, 1));
        shipped.refuse("stock to a shipped order", NOT_NOW, m -> m.give(0, 1));
        shipped.refuse("a held roll to a shipped order", NOT_NOW, m -> m.give(1, 1));
        shipped.refuse("a pattern of a plan without sets", PLACE, m -> m.patternAt(0, 0));
        shipped.refuse("a cut by a plan without sets", PLACE, m -> m.cut(0, 2, 0));
        shipped.refuse("one of 15 alone", NONE, m -> m.plan(1));
    }

    private static void theMillWithTooMany(RefusalTest tooMany) {
        tooMany.refuse("4 of 1 to 3", NOT_NOW, m -> m.ship(1));
        tooMany.refuse("given before", NOT_NOW, m -> m.give(0, 1));
        tooMany.refuse("cut to 10 of the 15", NOT_NOW, m -> m.give(0, 0));
        tooMany.refuse("no such kind", NUMBER, m -> m.plan(-1));
    }

    private static void theFullMillIsSetUp(RefusalTest full) {
        full.refuse("set", STATE, m -> m.setMill(60, 8, 0, 20));
        full.refuse("a seventh order", STATE, m -> m.order(0, 20, 1, 0, 0));
        full.refuse("a seventh order out of range", NUMBER, m -> m.order(0, 61, 1, 0, 0));
        full.refuse("a thirteenth reel", STATE, m -> m.reel(3));
        full.refuse("a thirteenth reel of another kind", STATE, m -> m.reel(1));
        full.refuse("a thirteenth reel of no kind", NUMBER, m -> m.reel(4));
        full.refuse("a thirteenth reel's flaw", PLACE, m -> m.flaw(12, 0, 0, 1));
        full.refuse("the flaw of a set that was cut", NOT_NOW, m -> m.flaw(6, 0, 59, 1));
    }

    private static void theFullMillCuts(RefusalTest full) {
        full.refuse("151 rolls", STATE, m -> m.cut(6, 1, 1));
        full.refuse("151 rolls, of the last reel of the kind", STATE, m -> m.cut(9, 2, 1));
        full.refuse("151 rolls, and cut before", NOT_NOW, m -> m.cut(6, 0, 1));
        full.refuse("151 rolls, and used", NOT_NOW, m -> m.cut(6, 1, 0));
        full.refuse("151 rolls, and another kind", NOT_NOW, m -> m.cut(8, 1, 1));
        full.refuse("151 rolls, and no such pattern", PLACE, m -> m.cut(6, 1, 2));
        full.refuse("151 rolls, and no such reel", PLACE, m -> m.cut(12, 1, 1));
        full.refuse("no such roll", PLACE, m -> m.rollOf(150, 'r'));
        full.refuse("no such roll's state", PLACE, m -> m.stateOf(150));
        full.refuse("no such roll's claim", PLACE, m -> m.claim(150));
        full.refuse("no such roll to give", PLACE, m -> m.give(150, 1));
        full.refuse("stock with a flaw", NOT_NOW, m -> m.give(0, 0));
        full.refuse("a roll that is too narrow", NOT_NOW, m -> m.give(149, 3));
        full.refuse("no such order", PLACE, m -> m.give(0, 6));
        full.refuse("none held", NOT_NOW, m -> m.ship(3));
    }
}
