import java.util.NoSuchElementException;

/** The sentences of the document's "Terms", each with the boundary that it names. */
public final class TermsTest {
    private static final Class<?> NUMBER = IllegalArgumentException.class;
    private static final Class<?> STATE = IllegalStateException.class;
    private static final Class<?> PLACE = IndexOutOfBoundsException.class;
    private static final Class<?> NOT_NOW = UnsupportedOperationException.class;
    private static final Class<?> NONE = NoSuchElementException.class;

    public static void main(String[] args) {
        theDeckleIsFortyAtFirst();
        theKnivesAreSixAtFirst();
        theTrimIsZeroToTenAtFirst();
        asManyRollsAsTheKnives();
        theTrimIsFromTheLeastToTheMost();
        aColumnOfASetWeighsOne();
        sixOrdersAreNumberedFromZero();
        theQualityIsTheGreatestFlaw();
        twelveReelsHaveThreeSetsEach();
        theGreatestFlawToldCounts();
        aReelIsMadeOfBrokeAsFarAsThereIsSome();
        whatIsSpoiltIsBrokeForTheReel();
        theCycleIsGoneThroughInTheShorterWay();
        onlyTheReelBeforeCounts();
        aPlanIsForOrdersOfTheKindThatAreNotShipped();
        rollsLessAndAndTheTolerance();
        rollsWithThoseHeld();
        noneIfThereAreMoreAlready();
        atLeastOneRollInAll();
        fewestSetsThenLeastTrimThenTheFirst();
        aPlanIsTakenAway();
        aPlanIsLeft();
        aNewPlanTakesThePlace();
        theBoundIsRoundedUp();
        cutsAreWhereRollsEnd();
        knivesMoveBetweenTwo();
        patternsCanBeCutInAnyOrder();
        aSetIsCutIfItsReelIsOfTheKind();
        shiftedByZeroToItsTrim();
        shiftedByTheFewestColumns();
        aRollHasTheFlawsOfItsColumns();
        rollsAreNumberedAsTheyAreCut();
        aHundredAndFiftyRolls();
        aRollOfStockOrHeldForAnother();
        givenIfWideAndGoodEnough();
        givenToTheSameKind();
        theFirstColumnsAreKept();
        theFlawStaysAsItWas();
        anOrderIsShippedWithAllRolls();
        shippedFromTheLeastToTheMost();
        Check.end();
    }

    /** "The deckle, 40 columns at first" */
    private static void theDeckleIsFortyAtFirst() {
        Trimwinder mill = new Trimwinder();
        Check.same("an order of the width 40", 0, mill.order(0, 40, 1, 0, 0));
        Check.refused("one of the width 41", mill, NUMBER, () -> mill.order(0, 41, 1, 0, 0));
        mill.reel(0);
        Check.same("a reel of 3 by 40", 120L, mill.weight('p'));
        Check.same("the column 39", 1, mill.flaw(0, 2, 39, 1));
        Check.refused("the column 40", mill, PLACE, () -> mill.flaw(0, 2, 40, 1));
    }

    /** "the knives, 6 at first": 7 rolls of the width 5 would leave 5 columns, 8 none. */
    private static void theKnivesAreSixAtFirst() {
        Trimwinder mill = new Trimwinder();
        mill.order(0, 5, 12, 0, 0);
        Check.same("six of the width 5 alone", 1, mill.patterns(0));
        Check.same("two sets", 2, mill.plan(0));
        Check.same("six in the first one", 6, mill.patternAt(0, 0));
    }

    /** "the trim .. is from the least one, 0 at first, to the most one, 10 at first" */
    private static void theTrimIsZeroToTenAtFirst() {
        Trimwinder mill = new Trimwinder();
        mill.order(0, 20, 1, 0, 0);
        mill.order(0, 21, 1, 0, 0);
        Check.same("two of 20 leave no trim, and 21 does not go beside 20", 1, mill.patterns(0));
        Check.refused("nor is either cut alone", mill, NONE, () -> mill.plan(0));
        Check.same("41 columns are more than a set has", 2, mill.bound(0));
        mill.order(1, 30, 1, 0, 0);
        Check.same("a trim of 10", 1, mill.patterns(1));
        mill.order(2, 29, 1, 0, 0);
        Check.same("no trim of 11", 0, mill.patterns(2));
    }

    /** "at most as many as the knives" */
    private static void asManyRollsAsTheKnives() {
        for (int knives = 1; knives <= 8; knives++) {
            Trimwinder mill = Mills.mill(60, knives, 0, 20);
            mill.order(0, 20, 3, 0, 0);
            mill.order(1, 10, 6, 0, 0);
            mill.order(2, 7, 8, 0, 0);
            mill.order(3, 40, 1, 0, 0);
            Check.same("2 or 3 of 20 by " + knives, Math.max(0, Math.min(3, knives) - 1), mill.patterns(0));
            Check.same("4 to 6 of 10 by " + knives, Math.max(0, Math.min(6, knives) - 3), mill.patterns(1));
            Check.same("6 to 8 of 7 by " + knives, Math.max(0, Math.min(8, knives) - 5), mill.patterns(2));
            Check.same("1 of 40 by " + knives, 1, mill.patterns(3));
            String due = knives < 8 ? "throws.NoSuchElementException" : "1";
            Check.same("8 of 7 planned by " + knives, due, Check.answer(() -> mill.plan(2)));
        }
    }

    /** "the trim, what is left of the deckle, is from the least one, 0 at first, to the most one, 10 at first" */
    private static void theTrimIsFromTheLeastToTheMost() {
        int[][] trims = {{0, 10}, {0, 0}, {9, 9}, {9, 20}, {0, 20}, {1, 19}, {5, 7}};
        for (int i = 0; i < trims.length; i++) {
            for (int width = 18; width <= 40; width++) {
                Trimwinder mill = i == 0 ? new Trimwinder() : Mills.mill(40, 1, trims[i][0], trims[i][1]);
                int rolls = i == 0 && width <= 20 ? 2 : 1;
                mill.order(0, width, rolls, 0, 0);
                int trim = 40 - rolls * width;
                boolean fits = trim >= trims[i][0] && trim <= trims[i][1];
                String what = " of " + width + " with " + trims[i][0] + " to " + trims[i][1];
                Check.same("patterns" + what, fits ? 1 : 0, mill.patterns(0));
                String due = fits ? "1" : "throws.NoSuchElementException";
                Check.same("sets" + what, due, Check.answer(() -> mill.plan(0)));
            }
        }
    }

    /** "a column of a set weighs 1", and a reel is "3 times the deckle in all" */
    private static void aColumnOfASetWeighsOne() {
        for (int deckle = 20; deckle <= 60; deckle++) {
            Trimwinder mill = Mills.mill(deckle, 1, 0, 20);
            mill.order(3, deckle - 3, 1, 0, 0);
            mill.plan(3);
            mill.reel(3);
            Check.same("a reel of " + deckle, 3 * deckle + " 0 " + 3 * deckle + " 0 0", Mills.weights(mill));
            mill.cut(0, 1, 0);
            Check.same("a set of it cut", 3 * deckle + " 3 " + 2 * deckle + " " + (deckle - 3) + " 0",
                    Mills.weights(mill));
        }
    }

    /** "At most 6 orders are numbered from 0" */
    private static void sixOrdersAreNumberedFromZero() {
        Trimwinder mill = new Trimwinder();
        Check.refused("no order 0", mill, PLACE, () -> mill.held(0));
        for (int i = 0; i < 6; i++) {
            int next = i + 1;
            Check.same("the number", i, mill.order(3 - i % 4, 20, 1, 0, 0));
            Check.same("held for it", 0, mill.held(i));
            Check.refused("none behind it", mill, PLACE, () -> mill.held(next));
        }
        Check.refused("the seventh", mill, STATE, () -> mill.order(0, 20, 1, 0, 0));
    }

    /** "a quality: the greatest flaw that a roll may have", "it is good .. if this is not above the quality" */
    private static void theQualityIsTheGreatestFlaw() {
        for (int quality = 0; quality <= 3; quality++) {
            for (int flaw = 0; flaw <= 3; flaw++) {
                Trimwinder mill = Mills.mill(40, 1, 0, 0);
                mill.order(0, 40, 1, 0, quality);
                mill.plan(0);
                mill.reel(0);
                if (flaw > 0) {
                    mill.flaw(0, 0, 20, flaw);
                }
                boolean good = flaw <= quality;
                String what = "flaw " + flaw + " with the quality " + quality;
                Check.same(what + ": good ones", good ? 1 : 0, mill.cut(0, 0, 0));
                Check.same(what + ": the state", good ? 'h' : 's', mill.stateOf(0));
                Check.same(what + ": its order", good ? 0 : -1, mill.rollOf(0, 'o'));
                Check.same(what + ": its flaw", flaw, mill.rollOf(0, 'f'));
                Check.same(what + ": held", good ? 1 : 0, mill.held(0));
            }
        }
    }

    /** "At most 12 reels are numbered from 0, each of a kind, with the sets 0 to 2" */
    private static void twelveReelsHaveThreeSetsEach() {
        Trimwinder mill = Mills.wasteful(2, 12);
        for (int i = 0; i < 12; i++) {
            int next = i + 1;
            Check.same("the number", i, mill.reel(2));
            Check.same("each set by itself", "1 2 3", mill.flaw(i, 0, 19, 1) + " " + mill.flaw(i, 1, 19, 2) + " "
                    + mill.flaw(i, 2, 19, 3));
            Check.refused("none behind it", mill, PLACE, () -> mill.flaw(next, 0, 0, 1));
        }
        Check.refused("the thirteenth", mill, STATE, () -> mill.reel(2));
        for (int i = 0; i < 12; i++) {
            mill.cut(i, i % 3, i);
        }
        for (int i = 0; i < 36; i++) {
            int reel = i / 3;
            int set = i % 3;
            boolean cut = set == reel % 3;
            Check.same("cut " + i, cut ? "0" : "throws.NoSuchElementException",
                    Check.answer(() -> mill.shift(reel, set)));
            Check.same("flaws " + i, cut ? "throws.UnsupportedOperationException" : "" + (set + 1),
                    Check.answer(() -> mill.flaw(reel, set, 19, 1)));
        }
        Check.same("24 sets left", 480L, mill.weight('u'));
    }

    /** "A flaw, from 1 to 3, is in a column of a set; the greatest one told for it counts." */
    private static void theGreatestFlawToldCounts() {
        for (int i = 0; i < 27; i++) {
            Trimwinder mill = new Trimwinder();
            mill.order(0, 40, 1, 0, 0);
            mill.plan(0);
            mill.reel(0);
            int first = 1 + i % 3;
            int second = 1 + i / 3 % 3;
            int third = 1 + i / 9;
            int two = Math.max(first, second);
            int all = Math.max(two, third);
            Check.same("flaws " + i, first + " " + two + " " + all, mill.flaw(0, 1, 39, first) + " "
                    + mill.flaw(0, 1, 39, second) + " " + mill.flaw(0, 1, 39, third));
            mill.cut(0, 1, 0);
            Check.same("the roll's " + i, all, mill.rollOf(0, 'f'));
            Check.same("the claim " + i, all, mill.claim(0));
        }
    }

    /** "The reel is made of broke, as far as there is some, and otherwise of pulp": too little, enough, too much. */
    private static void aReelIsMadeOfBrokeAsFarAsThereIsSome() {
        for (int last = 8; last <= 12; last++) {
            Trimwinder mill = sixSets(last);
            int broke = 50 + 20 - last;
            int rolls = 50 + last;
            Check.same("six sets cut", "120 " + broke + " 0 " + rolls + " 0", Mills.weights(mill));
            mill.reel(1);
            int pulp = 120 + Math.max(0, 60 - broke);
            int left = Math.max(0, broke - 60);
            Check.same("broke " + broke + " for 60", pulp + " " + left + " 60 " + rolls + " 0", Mills.weights(mill));
            Check.same("sound with " + broke, true, mill.isSound());
        }
    }

    /** Six sets of the deckle 20 and of kind 1: five with a roll of the width 10, the last one with one of another. */
    private static Trimwinder sixSets(int last) {
        Trimwinder mill = Mills.mill(20, 1, 0, 20);
        mill.order(1, 10, 5, 0, 0);
        mill.order(1, last, 1, 0, 0);
        mill.plan(1);
        mill.reel(1);
        mill.reel(1);
        for (int i = 0; i < 6; i++) {
            mill.cut(i / 3, i % 3, i);
        }
        return mill;
    }

    /** "paper is spoilt first: 2 for each step ..; it is made of pulp, and is broke then" */
    private static void whatIsSpoiltIsBrokeForTheReel() {
        for (int last = 8; last <= 14; last++) {
            for (int to = 0; to < 4; to++) {
                Trimwinder mill = sixSets(last);
                mill.reel(to);
                int spoilt = to == 1 ? 0 : to == 3 ? 4 : 2;
                int broke = 70 - last + spoilt;
                int pulp = 120 + spoilt + Math.max(0, 60 - broke);
                int left = Math.max(0, broke - 60);
                Check.same("broke " + broke + " of kind " + to, pulp + " " + left + " 60 " + (50 + last) + " 0",
                        Mills.weights(mill));
            }
        }
    }

    /** "2 for each step .., the cycle of the kinds being gone through in the shorter way": 0 follows 3. */
    private static void theCycleIsGoneThroughInTheShorterWay() {
        int[][] spoilt = {{0, 2, 4, 2}, {2, 0, 2, 4}, {4, 2, 0, 2}, {2, 4, 2, 0}};
        for (int i = 0; i < 256; i++) {
            int kind = i / 64;
            Trimwinder mill = allCut(kind, 4);
            long broke = mill.weight('b');
            long pulp = mill.weight('p');
            for (int to : new int[] {i / 16 % 4, i / 4 % 4, i % 4}) {
                mill.reel(to);
                pulp += spoilt[kind][to];
                broke += spoilt[kind][to] - 60;
                String what = "from " + kind + " to " + to + " in " + i;
                Check.same(what, pulp + " " + broke, mill.weight('p') + " " + mill.weight('b'));
                kind = to;
            }
        }
    }

    /** Reels of one kind and of the deckle 20, cut into a roll of 4 columns each set. */
    private static Trimwinder allCut(int kind, int reels) {
        Trimwinder mill = Mills.wasteful(kind, 3 * reels);
        for (int i = 0; i < reels; i++) {
            mill.reel(kind);
        }
        for (int i = 0; i < 3 * reels; i++) {
            mill.cut(i / 3, i % 3, i);
        }
        return mill;
    }

    /** "If the reel before, if there is one, was of another kind" */
    private static void onlyTheReelBeforeCounts() {
        for (int kind = 0; kind < 4; kind++) {
            Trimwinder first = new Trimwinder();
            first.reel(kind);
            Check.same("the first reel spoils nothing", "120 0 120 0 0", Mills.weights(first));
            first.reel(kind);
            Check.same("nor does the same kind", "240 0 240 0 0", Mills.weights(first));
        }
        Trimwinder mill = allCut(0, 4);
        mill.reel(2);
        mill.reel(2);
        Check.same("two steps once", "244 76 120 48 0", Mills.weights(mill));
    }

    /** "A plan is of a kind, for its orders that are not shipped." */
    private static void aPlanIsForOrdersOfTheKindThatAreNotShipped() {
        Trimwinder mill = Mills.mill(40, 6, 0, 20);
        mill.order(0, 20, 1, 1, 0);
        mill.order(1, 20, 2, 0, 0);
        mill.order(0, 20, 2, 2, 0);
        mill.order(0, 10, 2, 0, 0);
        mill.ship(2);
        Check.same("of kind 0", 1, mill.plan(0));
        Check.same("its pattern", "1 0 0 2", Mills.row(mill, 0, 4));
        mill.ship(0);
        Check.same("one is shipped more", 1, mill.plan(0));
        Check.same("the pattern without it", "0 0 0 2", Mills.row(mill, 0, 4));
        Check.same("of kind 1", 1, mill.plan(1));
        Check.same("its own pattern", "0 2 0 0", Mills.row(mill, 0, 4));
        Check.same("of kind 2", 0, mill.plan(2));
    }

    /** "at least the rolls less the tolerance, and at most the rolls and the tolerance": here, 4 of 10 must be cut. */
    private static void rollsLessAndAndTheTolerance() {
        for (int rolls = 1; rolls <= 12; rolls++) {
            for (int tolerance = 0; tolerance <= 3; tolerance++) {
                Trimwinder mill = Mills.mill(40, 4, 0, 0);
                mill.order(0, 10, rolls, tolerance, 0);
                int sets = Math.max(0, rolls - tolerance + 3) / 4;
                String due = 4 * sets <= rolls + tolerance ? "" + sets : "throws.NoSuchElementException";
                Check.same(rolls + " rolls, tolerance " + tolerance, due, Check.answer(() -> mill.plan(0)));
                Check.same("its bound", sets, mill.bound(0));
            }
        }
    }

    /** "with those held for it": 4 are held. */
    private static void rollsWithThoseHeld() {
        for (int rolls = 1; rolls <= 12; rolls++) {
            for (int tolerance = 0; tolerance <= 3; tolerance++) {
                Trimwinder mill = Mills.mill(40, 4, 0, 0);
                mill.order(0, 10, 4, 0, 0);
                mill.reel(0);
                mill.plan(0);
                mill.cut(0, 0, 0);
                mill.order(0, 10, rolls, tolerance, 0);
                for (int i = 0; i < 4; i++) {
                    mill.give(i, 1);
                }
                Check.same("4 for it", "0 4", mill.held(0) + " " + mill.held(1));
                int more = Math.max(0, rolls - tolerance - 4 + 3) / 4;
                String due = more == 0 || 4 + 4 * more <= rolls + tolerance ? "" + (1 + more)
                        : "throws.NoSuchElementException";
                Check.same(rolls + " rolls with 4 held, " + tolerance, due, Check.answer(() -> mill.plan(0)));
                Check.same("its bound", 1 + more, mill.bound(0));
            }
        }
    }

    /** "or none if there are more already" */
    private static void noneIfThereAreMoreAlready() {
        for (int given = 0; given <= 4; given++) {
            Trimwinder mill = Mills.mill(40, 4, 0, 20);
            mill.order(0, 10, 4, 0, 0);
            mill.reel(0);
            mill.plan(0);
            mill.cut(0, 0, 0);
            mill.order(0, 10, 2, 1, 0);
            for (int i = 0; i < given; i++) {
                mill.give(i, 1);
            }
            // Of order 0 as many are missing as were given; of order 1 there may be up to 3 with those.
            Check.same("sets when " + given + " are given", 1, mill.plan(0));
            Check.same("the pattern when " + given + " are", given + " " + Math.max(0, 3 - given),
                    Mills.row(mill, 0, 2));
        }
    }

    /** "at least one in all": a pattern without rolls would leave the deckle, 20, as the most trim lets. */
    private static void atLeastOneRollInAll() {
        Trimwinder mill = Mills.mill(20, 8, 0, 20);
        mill.order(0, 20, 1, 1, 0);
        Check.same("one roll, or none", 1, mill.patterns(0));
        Check.same("none need be made", 0, mill.plan(0));
        mill.order(0, 20, 1, 0, 0);
        Check.same("one set", 1, mill.plan(0));
        Check.same("its roll", "0 1", Mills.row(mill, 0, 2));
        Check.same("no patterns without orders", 0, mill.patterns(1));
    }

    /** "the one with the fewest sets, of several the one with the least trim in all, of several the first one" */
    private static void fewestSetsThenLeastTrimThenTheFirst() {
        Trimwinder sets = Mills.mill(40, 2, 0, 20);
        sets.order(0, 20, 3, 2, 0);
        Check.same("one set, though two could be cut", 1, sets.plan(0));
        Check.same("two of 20", "2", Mills.row(sets, 0, 1));
        Trimwinder trim = Mills.mill(40, 2, 0, 20);
        trim.order(0, 19, 2, 0, 0);
        trim.order(0, 21, 2, 0, 0);
        Check.same("two sets", 2, trim.plan(0));
        Check.same("38 and 42 is no way", "1 1, 1 1", Mills.rows(trim, 2, 2));
        Trimwinder first = Mills.mill(40, 2, 0, 20);
        first.order(0, 18, 2, 0, 0);
        first.order(0, 20, 2, 0, 0);
        Check.same("two sets again", 2, first.plan(0));
        Check.same("as much trim either way: the greater number first", "2 0, 0 2", Mills.rows(first, 2, 2));
        Trimwinder more = Mills.mill(40, 2, 0, 20);
        more.order(0, 20, 2, 1, 0);
        more.order(0, 10, 1, 1, 0);
        Check.same("one set", 1, more.plan(0));
        Check.same("2 of 20, with no trim, before 1 and 1", "2 0", Mills.row(more, 0, 2));
        Trimwinder last = Mills.mill(40, 2, 0, 20);
        last.order(0, 10, 2, 0, 0);
        last.order(0, 20, 1, 0, 0);
        last.order(0, 20, 1, 0, 0);
        Check.same("two sets still", 2, last.plan(0));
        Check.same("two narrow ones first", "2 0 0, 0 1 1", Mills.rows(last, 2, 3));
    }

    /** "a new order .., one that is shipped, a roll that is given and each telling of the mill take it away" */
    private static void aPlanIsTakenAway() {
        for (int i = 0; i < 4; i++) {
            Trimwinder mill = Mills.busy();
            mill.order(i, 20, 1, 0, 0);
            gone("a new order of kind " + i, mill);
        }
        Trimwinder sent = Mills.mill(40, 4, 0, 6);
        sent.order(0, 20, 2, 0, 0);
        sent.order(3, 20, 1, 1, 0);
        sent.plan(0);
        sent.ship(1);
        gone("an order shipped without rolls, of another kind", sent);
        Trimwinder given = Mills.busy();
        given.give(0, 1);
        gone("a roll given", given);
        Trimwinder other = Mills.busy();
        other.plan(2);
        other.give(0, 1);
        gone("a roll given of another kind than the plan's", other);
        Trimwinder told = new Trimwinder();
        told.order(0, 20, 2, 0, 0);
        told.plan(0);
        told.setMill(40, 6, 0, 10);
        gone("the mill told the same", told);
        told.plan(1);
        told.setMill(50, 6, 0, 10);
        gone("the mill told with a plan without sets", told);
    }

    private static void gone(String what, Trimwinder mill) {
        Check.same(what + ": unused", 0, mill.unused());
        Check.refused(what + ": trim", mill, NONE, () -> mill.trim());
        Check.refused(what + ": moves", mill, NONE, () -> mill.moves());
        Check.refused(what + ": pattern", mill, PLACE, () -> mill.patternAt(0, 0));
        Check.refused(what + ": cut", mill, PLACE, () -> mill.cut(0, 1, 1));
    }

    /** Nothing else takes a plan away: reels, flaws, cuts, and what is refused. */
    private static void aPlanIsLeft() {
        Trimwinder mill = Mills.busy();
        mill.reel(3);
        mill.flaw(2, 0, 0, 1);
        mill.bound(0);
        mill.patterns(1);
        Check.refused("a plan without a way", mill, NONE, () -> mill.plan(1));
        Check.refused("no such order to ship", mill, PLACE, () -> mill.ship(5));
        Check.refused("too few to ship", mill, NOT_NOW, () -> mill.ship(0));
        Check.refused("no such gift", mill, NOT_NOW, () -> mill.give(0, 0));
        Check.refused("no such order", mill, NUMBER, () -> mill.order(0, 41, 1, 0, 0));
        Check.refused("no such mill", mill, STATE, () -> mill.setMill(40, 4, 0, 6));
        Check.same("one is still unused", 1, mill.unused());
        Check.same("the trim", 5, mill.trim());
        Check.same("the second pattern is cut", 3, mill.cut(0, 1, 1));
        Check.same("none is unused", 0, mill.unused());
        Check.same("the plan is there still", 5, mill.trim());
        Check.same("and has no moves", 0, mill.moves());
    }

    /** "A new plan takes the place of the one before, also one without sets" */
    private static void aNewPlanTakesThePlace() {
        Trimwinder mill = Mills.busy();
        Check.same("of another kind", 1, mill.plan(2));
        Check.same("its pattern", "0 0 0 0 2", Mills.row(mill, 0, 5));
        Check.refused("no second pattern", mill, PLACE, () -> mill.patternAt(1, 0));
        Check.refused("no cut of the kind before", mill, NOT_NOW, () -> mill.cut(0, 1, 0));
        Check.same("without sets", 0, mill.plan(3));
        Check.same("none unused", 0, mill.unused());
        Check.same("no trim", 0, mill.trim());
        Trimwinder again = Mills.wasteful(0, 2);
        again.reel(0);
        again.cut(0, 0, 1);
        Check.same("the same kind anew", 1, again.plan(0));
        Check.same("its pattern is not used", 1, again.unused());
        Check.same("and is cut", 1, again.cut(0, 1, 0));
    }

    /** "divided by the deckle less the least trim, rounded up" */
    private static void theBoundIsRoundedUp() {
        for (int deckle = 20; deckle <= 60; deckle++) {
            for (int least = 0; least <= 9; least += 3) {
                for (int rolls = 1; rolls <= 12; rolls++) {
                    Trimwinder mill = Mills.mill(deckle, 6, least, 20);
                    mill.order(2, 11, rolls, 0, 0);
                    mill.order(2, 4, 3, 3, 0);
                    int room = deckle - least;
                    int due = 0;
                    while (due * room < 11 * rolls) {
                        due++;
                    }
                    Check.same(rolls + " of 11 by " + room, due, mill.bound(2));
                    Check.same("of no orders", 0, mill.bound(1));
                }
            }
        }
    }

    /** "The rolls of a pattern lie from the column 0 on .. Its cuts are the columns at which a roll ends." */
    private static void cutsAreWhereRollsEnd() {
        Trimwinder mill = Mills.mill(40, 2, 0, 20);
        mill.order(0, 20, 3, 0, 0);
        Check.same("two sets", 2, mill.plan(0));
        Check.same("2 and 1", "2, 1", Mills.rows(mill, 2, 1));
        Check.same("the cut at the deckle's end counts, that at 20 is of both", 1, mill.moves());
        Trimwinder rising = Mills.mill(40, 2, 0, 10);
        rising.order(0, 15, 1, 0, 0);
        rising.order(0, 20, 2, 0, 0);
        rising.order(0, 15, 1, 0, 0);
        Check.same("two sets of 15 and 20", 2, rising.plan(0));
        Check.same("rows", "1 1 0, 0 1 1", Mills.rows(rising, 2, 3));
        Check.same("15 and 35 against 20 and 35", 2, rising.moves());
        Trimwinder wide = Mills.mill(60, 1, 0, 20);
        wide.order(0, 60, 1, 0, 0);
        wide.order(0, 40, 1, 0, 0);
        wide.plan(0);
        Check.same("the cut at 60 against that at 40", 2, wide.moves());
    }

    /** "as many knives move as there are cuts of the one or the other that are not cuts of both" */
    private static void knivesMoveBetweenTwo() {
        Trimwinder alike = Mills.wasteful(0, 2);
        Check.same("two alike", 0, alike.moves());
        Trimwinder one = Mills.wasteful(0, 1);
        Check.same("one alone", 0, one.moves());
        Trimwinder most = Mills.mill(60, 8, 0, 20);
        most.order(0, 7, 8, 0, 0);
        most.order(0, 5, 8, 0, 0);
        most.plan(0);
        Check.same("8 of 7 and 8 of 5: 35 is a cut of both", "8 0, 0 8", Mills.rows(most, 2, 2));
        Check.same("14 of 16", 14, most.moves());
    }

    /** "The patterns of the plan that are not used yet can be cut in any order." */
    private static void patternsCanBeCutInAnyOrder() {
        for (int first = 0; first < 3; first++) {
            for (int second = 0; second < 3; second++) {
                Trimwinder mill = Mills.mill(20, 1, 0, 20);
                mill.order(1, 20, 1, 0, 0);
                mill.order(1, 10, 1, 0, 0);
                mill.order(1, 5, 1, 0, 0);
                mill.plan(1);
                mill.reel(1);
                int one = first;
                int two = second;
                Check.same("the first cut", 1, mill.cut(0, 0, one));
                Check.same("its order", one, mill.rollOf(0, 'o'));
                Check.refused("the same one again", mill, NOT_NOW, () -> mill.cut(0, 1, one));
                if (one != two) {
                    Check.same("the second cut", 1, mill.cut(0, 2, two));
                    Check.same("the last cut", 1, mill.cut(0, 1, 3 - one - two));
                    Check.same("the last one's order", 3 - one - two, mill.rollOf(2, 'o'));
                }
            }
        }
    }

    /** "A set that is not cut is cut by a pattern of the plan that is not used, if its reel is of the kind." */
    private static void aSetIsCutIfItsReelIsOfTheKind() {
        for (int kind = 0; kind < 4; kind++) {
            Trimwinder mill = Mills.wasteful(kind, 2);
            for (int i = 0; i < 4; i++) {
                mill.reel(i);
            }
            for (int i = 0; i < 4; i++) {
                int reel = i;
                if (i == kind) {
                    Check.same("its kind " + kind, 1, mill.cut(reel, 0, 0));
                    Check.refused("the set again", mill, NOT_NOW, () -> mill.cut(reel, 0, 1));
                    Check.refused("the pattern again", mill, NOT_NOW, () -> mill.cut(reel, 1, 0));
                } else {
                    Check.refused("another kind " + reel, mill, NOT_NOW, () -> mill.cut(reel, 0, 1));
                }
            }
        }
    }

    /** "shifted to the right by 0 to its trim columns" */
    private static void shiftedByZeroToItsTrim() {
        for (int trim = 0; trim <= 20; trim++) {
            for (int flawed = 0; flawed <= trim + 1; flawed++) {
                Trimwinder mill = Mills.mill(60, 1, 0, 20);
                mill.order(0, 60 - trim, 1, 0, 0);
                mill.plan(0);
                mill.reel(0);
                if (flawed > 0) {
                    mill.flaw(0, 0, flawed - 1, 1);
                }
                boolean good = flawed <= trim;
                String what = "trim " + trim + ", " + flawed + " to pass";
                Check.same(what, good ? 1 : 0, mill.cut(0, 0, 0));
                Check.same(what + ": shift", good ? flawed : 0, mill.shift(0, 0));
                Check.same(what + ": column", good ? flawed : 0, mill.rollOf(0, 'c'));
            }
        }
    }

    /** "by the fewest ones by which the most rolls are good" */
    private static void shiftedByTheFewestColumns() {
        Trimwinder mill = Mills.mill(40, 2, 0, 10);
        mill.order(0, 15, 2, 0, 0);
        mill.plan(0);
        mill.reel(0);
        mill.flaw(0, 0, 2, 1);
        mill.flaw(0, 0, 34, 1);
        Check.same("both only by 3 and 4", 2, mill.cut(0, 0, 0));
        Check.same("by 3", 3, mill.shift(0, 0));
        Check.same("they are 3 to 32", "3 18", mill.rollOf(0, 'c') + " " + mill.rollOf(1, 'c'));
        Trimwinder never = Mills.mill(40, 2, 0, 10);
        never.order(0, 15, 2, 0, 0);
        never.plan(0);
        never.reel(0);
        never.flaw(0, 0, 12, 1);
        never.flaw(0, 0, 27, 1);
        Check.same("none is good by any", 0, never.cut(0, 0, 0));
        Check.same("by 0", 0, never.shift(0, 0));
        Trimwinder late = Mills.mill(40, 2, 0, 10);
        late.order(0, 15, 2, 0, 0);
        late.plan(0);
        late.reel(0);
        late.flaw(0, 0, 9, 1);
        late.flaw(0, 0, 20, 1);
        Check.same("one is good by 10 alone", 1, late.cut(0, 0, 0));
        Check.same("by the whole trim", 6, late.shift(0, 0));
    }

    /** "A roll has the greatest flaw of its columns, 0 without one": its first column and its last one count. */
    private static void aRollHasTheFlawsOfItsColumns() {
        for (int column = 0; column < 40; column++) {
            Trimwinder mill = Mills.mill(40, 3, 0, 0);
            mill.order(0, 10, 1, 0, 3);
            mill.order(0, 20, 1, 0, 3);
            mill.order(0, 10, 1, 0, 3);
            mill.plan(0);
            mill.reel(0);
            mill.flaw(0, 0, column, 2);
            Check.same("all good", 3, mill.cut(0, 0, 0));
            int hit = column < 10 ? 0 : column < 30 ? 1 : 2;
            for (int i = 0; i < 3; i++) {
                Check.same("flaw in " + column + ", roll " + i, i == hit ? 2 : 0, mill.rollOf(i, 'f'));
                Check.same("claim in " + column + ", roll " + i, i == hit ? 2 : 0, mill.claim(i));
            }
        }
    }

    /** "numbered from 0, by sets as they are cut, then by columns" */
    private static void rollsAreNumberedAsTheyAreCut() {
        Trimwinder mill = Mills.mill(40, 2, 0, 0);
        mill.order(0, 15, 2, 0, 0);
        mill.order(0, 25, 2, 0, 0);
        mill.plan(0);
        mill.reel(0);
        mill.reel(0);
        mill.cut(1, 2, 1);
        mill.cut(0, 1, 0);
        Check.same("roll 0", "1 2 0 15 0 0 h", Mills.roll(mill, 0));
        Check.same("roll 1", "1 2 15 25 0 1 h", Mills.roll(mill, 1));
        Check.same("roll 2", "0 1 0 15 0 0 h", Mills.roll(mill, 2));
        Check.same("roll 3", "0 1 15 25 0 1 h", Mills.roll(mill, 3));
        Check.refused("roll 4", mill, PLACE, () -> mill.stateOf(4));
    }

    /** "At most 150 rolls" */
    private static void aHundredAndFiftyRolls() {
        Trimwinder mill = Mills.mill(60, 8, 0, 20);
        mill.order(0, 7, 8, 0, 0);
        mill.order(1, 7, 7, 0, 0);
        for (int i = 0; i < 18; i++) {
            int reel = i % 3 == 0 ? mill.reel(0) : i / 3;
            Mills.spoil(mill, reel, i % 3);
            mill.plan(0);
            mill.cut(reel, i % 3, 0);
        }
        mill.reel(1);
        mill.plan(1);
        Check.refused("144 and 7 are 151", mill, STATE, () -> mill.cut(6, 0, 0));
        Check.same("144 are left", 144, mill.rolls());
        Check.same("the pattern is not used", 1, mill.unused());
        Check.refused("the set is not cut", mill, NONE, () -> mill.shift(6, 0));
        Check.same("144 and 6 are 150", 150, Mills.full().rolls());
    }

    /** "A roll that is stock, or held for another order that is not shipped, can be given" */
    private static void aRollOfStockOrHeldForAnother() {
        Trimwinder mill = Mills.busy();
        mill.order(0, 10, 2, 0, 3);
        Check.same("stock", 5, mill.give(0, 5));
        Check.same("it is held then", "h 5", mill.stateOf(0) + " " + mill.rollOf(0, 'o'));
        Check.same("held for another", 0, mill.give(2, 5));
        Check.same("no more for that one", "0 2", mill.held(1) + " " + mill.held(5));
        Check.refused("held for this order", mill, NOT_NOW, () -> mill.give(0, 5));
        mill.give(0, 1);
        Check.same("and on to a third one", "h 1", mill.stateOf(0) + " " + mill.rollOf(0, 'o'));
        mill.ship(1);
        Check.refused("held for one that is shipped", mill, NOT_NOW, () -> mill.give(0, 5));
        Check.refused("to one that is shipped", mill, NOT_NOW, () -> mill.give(2, 1));
    }

    /** "if its width is at least that of the order and its flaw not above the quality" */
    private static void givenIfWideAndGoodEnough() {
        for (int width = 18; width <= 22; width++) {
            for (int quality = 0; quality <= 3; quality++) {
                for (int flaw = 0; flaw <= 3; flaw++) {
                    Trimwinder mill = twenty(flaw);
                    mill.order(0, width, 1, 0, quality);
                    String due = width <= 20 && flaw <= quality ? "" + (20 - width)
                            : "throws.UnsupportedOperationException";
                    String what = "flaw " + flaw + " to the width " + width + " and quality " + quality;
                    Check.same(what, due, Check.answer(() -> mill.give(0, 1)));
                    boolean taken = !due.startsWith("throws");
                    Check.same(what + ": the width", taken ? width : 20, mill.rollOf(0, 'w'));
                    Check.same(what + ": broke", 20L + (taken ? 20 - width : 0), mill.weight('b'));
                    Check.same(what + ": held", taken ? 1 : 0, mill.held(1));
                }
            }
        }
    }

    /** One roll of the width 20 with a flaw, stock if it has one; order 0 wants none. */
    private static Trimwinder twenty(int flaw) {
        Trimwinder mill = Mills.mill(40, 1, 0, 20);
        mill.order(0, 20, 1, 0, 0);
        mill.plan(0);
        mill.reel(0);
        for (int i = 0; flaw > 0 && i < 40; i += 10) {
            mill.flaw(0, 0, i, flaw);
        }
        mill.cut(0, 0, 0);
        return mill;
    }

    /** "can be given to an order of the same kind" */
    private static void givenToTheSameKind() {
        for (int kind = 0; kind < 4; kind++) {
            Trimwinder mill = twenty(1);
            mill.order(kind, 20, 1, 0, 3);
            String due = kind == 0 ? "0" : "throws.UnsupportedOperationException";
            Check.same("to kind " + kind, due, Check.answer(() -> mill.give(0, 1)));
        }
    }

    /** "cut to the order's width: its first columns are kept, the others are broke" */
    private static void theFirstColumnsAreKept() {
        for (int column = 0; column < 20; column++) {
            Trimwinder mill = Mills.mill(40, 2, 0, 20);
            mill.order(0, 5, 1, 0, 3);
            mill.order(0, 20, 1, 0, 3);
            mill.plan(0);
            mill.reel(0);
            mill.flaw(0, 2, 5 + column, 2);
            mill.cut(0, 2, 0);
            mill.order(0, 8, 1, 0, 2);
            Check.same("columns that become broke", 12, mill.give(1, 2));
            Check.same("given with a flaw in " + column, "0 2 5 8 2 2 h", Mills.roll(mill, 1));
            Check.same("the claim of 8 columns, flaw in " + column, column < 8 ? 2 : 0, mill.claim(1));
            Check.same("what it weighs", "120 27 80 13 0", Mills.weights(mill));
            Check.same("sound with a flaw in " + column, true, mill.isSound());
        }
    }

    /** "and its flaw stays as it was" */
    private static void theFlawStaysAsItWas() {
        Trimwinder mill = Mills.mill(40, 1, 0, 0);
        mill.order(0, 40, 1, 0, 0);
        mill.plan(0);
        mill.reel(0);
        mill.flaw(0, 0, 39, 2);
        mill.cut(0, 0, 0);
        mill.order(0, 39, 1, 0, 2);
        mill.order(0, 38, 1, 0, 1);
        mill.order(0, 38, 1, 0, 2);
        Check.same("the flawed column goes", 1, mill.give(0, 1));
        Check.same("the claim", 0, mill.claim(0));
        Check.same("the flaw", 2, mill.rollOf(0, 'f'));
        Check.same("the mean flaw", 2.0, mill.meanFlaw());
        Check.refused("the flaw counts when it is given on", mill, NOT_NOW, () -> mill.give(0, 2));
        Check.same("given on", 1, mill.give(0, 3));
        Check.same("the flaw still", 2, mill.rollOf(0, 'f'));
        mill.ship(3);
        Check.same("and when it is shipped", "2 0", mill.rollOf(0, 'f') + " " + mill.claim(0));
    }

    /** "An order is shipped with all rolls held for it" */
    private static void anOrderIsShippedWithAllRolls() {
        Trimwinder mill = Mills.cutTwice();
        Check.same("three", 3, mill.ship(1));
        StringBuilder states = new StringBuilder();
        for (int i = 0; i < 6; i++) {
            states.append(mill.stateOf(i));
        }
        Check.same("each of them, and no other", "shxhxx", states.toString());
        Check.same("their order is told", "-1 0 1 0 1 1", mill.rollOf(0, 'o') + " " + mill.rollOf(1, 'o') + " "
                + mill.rollOf(2, 'o') + " " + mill.rollOf(3, 'o') + " " + mill.rollOf(4, 'o') + " "
                + mill.rollOf(5, 'o'));
        Check.same("none is held", 0, mill.held(1));
        Check.same("their weight", 30L, mill.weight('x'));
        Check.same("all rolls are there", 6, mill.rolls());
    }

    /** "if they are at least the rolls less the tolerance and at most the rolls and the tolerance" */
    private static void shippedFromTheLeastToTheMost() {
        for (int held = 0; held <= 8; held++) {
            for (int tolerance = 0; tolerance <= 3; tolerance++) {
                Trimwinder mill = Mills.mill(60, 8, 0, 20);
                mill.order(0, 7, 8, 0, 0);
                mill.plan(0);
                mill.reel(0);
                mill.cut(0, 0, 0);
                mill.order(0, 7, 4, tolerance, 0);
                for (int i = 0; i < held; i++) {
                    mill.give(i, 1);
                }
                boolean fits = held >= 4 - tolerance && held <= 4 + tolerance;
                String what = held + " for 4 with " + tolerance;
                String due = fits ? "" + held : "throws.UnsupportedOperationException";
                Check.same(what, due, Check.answer(() -> mill.ship(1)));
                Check.same(what + ": held", fits ? 0 : held, mill.held(1));
                Check.same(what + ": weight", fits ? 7L * held : 0L, mill.weight('x'));
            }
        }
    }
}
