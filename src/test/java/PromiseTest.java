import java.lang.reflect.Field;
import java.util.NoSuchElementException;

/** Each promise of the document by examples: ordinary inputs, the edges, and the wrong inputs. */
public final class PromiseTest {
    private static final Class<?> WRONG_NUMBER = IllegalArgumentException.class;
    private static final Class<?> WRONG_STATE = IllegalStateException.class;
    private static final Class<?> NO_PLACE = IndexOutOfBoundsException.class;
    private static final Class<?> NOT_NOW = UnsupportedOperationException.class;
    private static final Class<?> NONE_THERE = NoSuchElementException.class;
    private static final Class<?> NO_SHARE = ArithmeticException.class;
    private static final int[] FAR = {Integer.MIN_VALUE, Integer.MAX_VALUE};

    public static void main(String[] args) throws Exception {
        promise01();
        promise02();
        promise02Effect();
        promise03();
        promise03Effect();
        promise04();
        promise04Broke();
        promise05();
        promise06Example();
        promise06Choice();
        promise06Rows();
        promise06Limits();
        promise06Held();
        promise06Lost();
        promise07();
        promise08();
        promise09();
        promise10();
        promise11();
        promise11Limits();
        promise12();
        promise12Shift();
        promise12Wrong();
        promise12Rolls();
        promise13();
        promise14();
        promise15();
        promise16();
        promise17();
        promise17Wrong();
        promise18();
        promise19();
        promise19Wrong();
        promise20();
        promise21();
        promise22();
        promise23();
        promise24();
        promise25();
        promise26();
        promise26Broken();
        Check.end();
    }

    private static void promise01() {
        Trimwinder mill = new Trimwinder();
        Check.same("1: rolls", 0, mill.rolls());
        Check.same("1: unused", 0, mill.unused());
        Check.same("1: weights", "0 0 0 0 0", Mills.weights(mill));
        Check.same("1: sound", true, mill.isSound());
        for (int kind = 0; kind < 4; kind++) {
            Check.same("1: bound", 0, mill.bound(kind));
            Check.same("1: patterns", 0, mill.patterns(kind));
        }
        Check.refused("1: no order", mill, NO_PLACE, () -> mill.held(0));
        Check.refused("1: no reel", mill, NO_PLACE, () -> mill.shift(0, 0));
        Check.refused("1: no roll", mill, NO_PLACE, () -> mill.stateOf(0));
        Check.refused("1: no plan", mill, NONE_THERE, () -> mill.trim());
        mill.order(0, 5, 1, 0, 0);
        Check.same("1: 6 knives cut 6 times 5, and the trim may be 10", 1, mill.patterns(0));
        mill.order(1, 4, 1, 0, 0);
        Check.same("1: 6 knives leave 16 of 6 times 4", 0, mill.patterns(1));
        mill.order(2, 40, 1, 0, 0);
        Check.same("1: the trim may be 0", 1, mill.patterns(2));
        mill.order(3, 29, 1, 0, 0);
        Check.same("1: the trim may not be 11", 0, mill.patterns(3));
        Check.same("1: the deckle is 40", 40, mill.setMill(40, 6, 0, 10));
    }

    private static void promise02() {
        Trimwinder mill = new Trimwinder();
        Check.same("2: first", 40, mill.setMill(20, 1, 0, 0));
        Check.same("2: all least", 20, mill.setMill(60, 8, 9, 20));
        Check.same("2: all greatest", 60, mill.setMill(21, 8, 9, 9));
        Check.same("2: most is least", 21, mill.setMill(40, 6, 0, 10));
        int[][] wrong = {{19, 6, 0, 10}, {61, 6, 0, 10}, {40, 0, 0, 10}, {40, 9, 0, 10}, {40, 6, -1, 10},
            {40, 6, 10, 12}, {40, 6, 3, 2}, {40, 6, 0, -1}, {40, 6, 0, 21}, {-40, -6, 0, 10}};
        mill.order(0, 20, 2, 0, 0);
        mill.plan(0);
        for (int[] w : wrong) {
            Check.refused("2: wrong", mill, WRONG_NUMBER, () -> mill.setMill(w[0], w[1], w[2], w[3]));
        }
        for (int far : FAR) {
            Check.refused("2: far deckle", mill, WRONG_NUMBER, () -> mill.setMill(far, 6, 0, 10));
            Check.refused("2: far knives", mill, WRONG_NUMBER, () -> mill.setMill(40, far, 0, 10));
            Check.refused("2: far least", mill, WRONG_NUMBER, () -> mill.setMill(40, 6, far, 10));
            Check.refused("2: far most", mill, WRONG_NUMBER, () -> mill.setMill(40, 6, 0, far));
        }
        mill.reel(0);
        Check.refused("2: a reel", mill, WRONG_STATE, () -> mill.setMill(40, 6, 0, 10));
        Check.refused("2: a reel and wrong", mill, WRONG_NUMBER, () -> mill.setMill(61, 6, 0, 10));
    }

    private static void promise02Effect() {
        Trimwinder mill = Mills.mill(40, 1, 0, 20);
        mill.order(0, 20, 2, 0, 0);
        Check.same("2: one knife", 1, mill.patterns(0));
        mill.setMill(40, 2, 0, 20);
        Check.same("2: two knives", 2, mill.patterns(0));
        mill.setMill(40, 2, 1, 20);
        Check.same("2: the least trim", 1, mill.patterns(0));
        mill.setMill(40, 2, 0, 19);
        Check.same("2: the most trim", 1, mill.patterns(0));
        mill.setMill(39, 2, 0, 19);
        Check.same("2: the deckle", 1, mill.patterns(0));
        mill.plan(0);
        mill.setMill(39, 2, 0, 19);
        Check.same("2: no plan", "throws.NoSuchElementException", Check.answer(() -> mill.trim()));
        mill.order(1, 39, 1, 0, 0);
        mill.setMill(20, 2, 0, 19);
        Check.same("2: an order wider than the deckle stays", 0, mill.patterns(1));
        Check.same("2: and its bound", 2, mill.bound(1));
    }

    private static void promise03() {
        Trimwinder mill = Mills.mill(60, 6, 0, 10);
        int[][] right = {{0, 4, 1, 0, 0}, {3, 60, 12, 3, 3}, {1, 20, 5, 2, 1}, {1, 30, 6, 1, 2}, {0, 60, 1, 3, 0}};
        for (int i = 0; i < right.length; i++) {
            int[] r = right[i];
            Check.same("3: the number", i, mill.order(r[0], r[1], r[2], r[3], r[4]));
        }
        int[][] wrong = {{-1, 20, 5, 0, 0}, {4, 20, 5, 0, 0}, {0, 3, 5, 0, 0}, {0, 61, 5, 0, 0}, {0, 20, 0, 0, 0},
            {0, 20, 13, 0, 0}, {0, 20, 5, -1, 0}, {0, 20, 5, 4, 0}, {0, 20, 5, 0, -1}, {0, 20, 5, 0, 4}};
        mill.plan(1);
        for (int[] w : wrong) {
            Check.refused("3: wrong", mill, WRONG_NUMBER, () -> mill.order(w[0], w[1], w[2], w[3], w[4]));
        }
        for (int far : FAR) {
            Check.refused("3: far kind", mill, WRONG_NUMBER, () -> mill.order(far, 20, 5, 0, 0));
            Check.refused("3: far width", mill, WRONG_NUMBER, () -> mill.order(0, far, 5, 0, 0));
            Check.refused("3: far rolls", mill, WRONG_NUMBER, () -> mill.order(0, 20, far, 0, 0));
            Check.refused("3: far tolerance", mill, WRONG_NUMBER, () -> mill.order(0, 20, 5, far, 0));
            Check.refused("3: far quality", mill, WRONG_NUMBER, () -> mill.order(0, 20, 5, 0, far));
        }
        mill.setMill(30, 6, 0, 10);
        Check.refused("3: wider than the deckle", mill, WRONG_NUMBER, () -> mill.order(0, 31, 1, 0, 0));
        Check.same("3: as wide as the deckle", 5, mill.order(0, 30, 1, 0, 0));
        mill.plan(2);
        Check.refused("3: a seventh", mill, WRONG_STATE, () -> mill.order(0, 30, 1, 0, 0));
        Check.refused("3: a wrong seventh", mill, WRONG_NUMBER, () -> mill.order(0, 31, 1, 0, 0));
    }

    private static void promise03Effect() {
        Trimwinder mill = Mills.mill(40, 6, 0, 10);
        mill.order(2, 17, 9, 2, 1);
        Check.same("3: kind, width, rolls and tolerance count", 3, mill.bound(2));
        Check.same("3: of this kind alone", 0, mill.bound(1));
        mill.order(0, 20, 2, 0, 0);
        mill.plan(0);
        mill.order(3, 20, 2, 0, 0);
        Check.same("3: a new order of another kind takes the plan", 0, mill.unused());
        Check.refused("3: no plan is left", mill, NONE_THERE, () -> mill.trim());
        Check.same("3: nothing is held", 0, mill.held(2));
        Check.same("3: it is not shipped", false, mill.isShipped(2));
    }

    private static void promise04() {
        Trimwinder mill = Mills.mill(40, 6, 0, 10);
        for (int i = 0; i < 12; i++) {
            Check.same("4: the number", i, mill.reel(2));
            Check.same("4: of pulp", (i + 1) * 120L, mill.weight('p'));
        }
        Check.same("4: all in sets", "1440 0 1440 0 0", Mills.weights(mill));
        mill.order(2, 20, 1, 1, 0);
        mill.plan(2);
        Check.refused("4: a thirteenth", mill, WRONG_STATE, () -> mill.reel(2));
        for (int kind : new int[] {-1, 4, Integer.MIN_VALUE, Integer.MAX_VALUE}) {
            Check.refused("4: a wrong thirteenth", mill, WRONG_NUMBER, () -> mill.reel(kind));
        }
        Trimwinder other = Mills.mill(20, 6, 0, 10);
        Check.refused("4: no kind", other, WRONG_NUMBER, () -> other.reel(4));
        Check.refused("4: no kind below", other, WRONG_NUMBER, () -> other.reel(-1));
        other.order(3, 20, 1, 0, 0);
        other.plan(3);
        Check.same("4: the first reel spoils nothing", 0, other.reel(3));
        Check.same("4: the first weighs 3 deckles", "60 0 60 0 0", Mills.weights(other));
        Check.same("4: a reel leaves the plan", 1, other.unused());
        other.reel(1);
        Check.same("4: what is spoilt is broke, and taken at once", "120 0 120 0 0", Mills.weights(other));
    }

    private static void promise04Broke() {
        int[][] steps = {{0, 1, 2, 1}, {1, 0, 1, 2}, {2, 1, 0, 1}, {1, 2, 1, 0}};
        for (int from = 0; from < 4; from++) {
            for (int to = 0; to < 4; to++) {
                Trimwinder mill = Mills.wasteful(from, 12);
                for (int i = 0; i < 4; i++) {
                    mill.reel(from);
                }
                for (int i = 0; i < 12; i++) {
                    mill.cut(i / 3, i % 3, i);
                }
                Check.same("4: before", "240 192 0 48 0", Mills.weights(mill));
                mill.reel(to);
                int spoilt = 2 * steps[from][to];
                Check.same("4: from " + from + " to " + to,
                        (240 + spoilt) + " " + (132 + spoilt) + " 60 48 0", Mills.weights(mill));
            }
        }
        Trimwinder mill = Mills.wasteful(0, 3);
        mill.reel(0);
        for (int i = 0; i < 3; i++) {
            mill.cut(0, i, i);
        }
        mill.reel(0);
        Check.same("4: broke as far as there is some, then pulp", "72 0 60 12 0", Mills.weights(mill));
        Trimwinder back = Mills.wasteful(1, 12);
        for (int i = 0; i < 4; i++) {
            back.reel(1);
        }
        for (int i = 0; i < 12; i++) {
            back.cut(i / 3, i % 3, i);
        }
        back.reel(3);
        back.reel(3);
        Check.same("4: the reel before counts, not the first one", "244 76 120 48 0", Mills.weights(back));
    }

    private static void promise05() {
        Trimwinder mill = Mills.mill(30, 6, 0, 15);
        mill.order(0, 15, 2, 0, 0);
        mill.reel(0);
        mill.reel(0);
        Check.same("5: told", 2, mill.flaw(0, 0, 0, 2));
        Check.same("5: a smaller one", 2, mill.flaw(0, 0, 0, 1));
        Check.same("5: a greater one", 3, mill.flaw(0, 0, 0, 3));
        Check.same("5: the last column", 1, mill.flaw(0, 0, 29, 1));
        Check.same("5: another column", 1, mill.flaw(0, 0, 1, 1));
        Check.same("5: another set", 1, mill.flaw(0, 1, 0, 1));
        Check.same("5: the last set", 2, mill.flaw(0, 2, 29, 2));
        Check.same("5: another reel", 1, mill.flaw(1, 0, 0, 1));
        mill.plan(0);
        int[][] nowhere = {{-1, 0, 0}, {2, 0, 0}, {12, 0, 0}, {0, -1, 0}, {0, 3, 0}, {0, 0, -1}, {0, 0, 30},
            {0, 2, 59}};
        for (int[] n : nowhere) {
            Check.refused("5: nowhere", mill, NO_PLACE, () -> mill.flaw(n[0], n[1], n[2], 1));
            Check.refused("5: nowhere and no flaw", mill, NO_PLACE, () -> mill.flaw(n[0], n[1], n[2], 4));
        }
        for (int far : FAR) {
            Check.refused("5: far reel", mill, NO_PLACE, () -> mill.flaw(far, 0, 0, 1));
            Check.refused("5: far set", mill, NO_PLACE, () -> mill.flaw(0, far, 0, 1));
            Check.refused("5: far column", mill, NO_PLACE, () -> mill.flaw(0, 0, far, 1));
            Check.refused("5: far flaw", mill, WRONG_NUMBER, () -> mill.flaw(0, 0, 0, far));
        }
        Check.refused("5: no flaw", mill, WRONG_NUMBER, () -> mill.flaw(0, 0, 0, 0));
        Check.refused("5: too great", mill, WRONG_NUMBER, () -> mill.flaw(0, 0, 0, 4));
        Check.same("5: one roll is good", 1, mill.cut(0, 1, 0));
        Check.refused("5: cut", mill, NOT_NOW, () -> mill.flaw(0, 1, 5, 3));
        Check.refused("5: cut and no flaw", mill, WRONG_NUMBER, () -> mill.flaw(0, 1, 5, 4));
        Check.refused("5: cut and nowhere", mill, NO_PLACE, () -> mill.flaw(0, 1, 30, 3));
        Check.same("5: the set beside is not cut", 3, mill.flaw(0, 2, 5, 3));
    }

    private static void promise06Example() {
        Trimwinder mill = Mills.mill(40, 4, 0, 6);
        mill.order(0, 15, 3, 0, 1);
        mill.order(0, 10, 2, 1, 3);
        mill.order(1, 30, 1, 0, 0);
        Check.same("6: sets", 2, mill.plan(0));
        Check.same("6: rows", "2 1 0, 1 2 0", Mills.rows(mill, 2, 3));
        Check.same("6: trim", 5, mill.trim());
        Check.refused("6: 30 of 40 leaves more than 6", mill, NONE_THERE, () -> mill.plan(1));
        Check.same("6: a kind without orders", 0, mill.plan(2));
        Check.same("6: it takes the plan's place", 0, mill.unused());
        Check.same("6: its trim", 0, mill.trim());
        Check.same("6: its moves", 0, mill.moves());
        mill.plan(0);
        for (int kind : new int[] {-1, 4, Integer.MIN_VALUE, Integer.MAX_VALUE}) {
            Check.refused("6: no kind", mill, WRONG_NUMBER, () -> mill.plan(kind));
        }
    }

    private static void promise06Choice() {
        Trimwinder mill = Mills.mill(40, 6, 0, 10);
        mill.order(0, 15, 1, 0, 0);
        mill.order(0, 15, 1, 0, 0);
        mill.order(0, 25, 3, 3, 0);
        Check.same("6: fewest sets before least trim", 1, mill.plan(0));
        Check.same("6: 30 of 40", 10, mill.trim());
        Check.same("6: without the wide one", "1 1 0", Mills.rows(mill, 1, 3));
        Trimwinder full = Mills.mill(40, 2, 0, 20);
        full.order(0, 20, 2, 1, 0);
        Check.same("6: 1 to 3 rolls", 1, full.plan(0));
        Check.same("6: the least trim of one set", "2", Mills.row(full, 0, 1));
        Check.same("6: no trim", 0, full.trim());
        Trimwinder single = Mills.mill(40, 1, 0, 20);
        single.order(0, 20, 2, 1, 0);
        Check.same("6: one knife", 1, single.plan(0));
        Check.same("6: one roll", "1", Mills.row(single, 0, 1));
        Check.same("6: half the deckle", 20, single.trim());
        Trimwinder rim = Mills.mill(40, 2, 1, 20);
        rim.order(0, 20, 2, 0, 0);
        Check.same("6: the least trim forbids two of a set", 2, rim.plan(0));
        Check.same("6: two half sets", 40, rim.trim());
        Trimwinder wide = Mills.mill(20, 8, 0, 20);
        wide.order(0, 10, 1, 1, 0);
        Check.same("6: none need be made, so none is", 0, wide.plan(0));
    }

    private static void promise06Rows() {
        Trimwinder mill = Mills.mill(40, 6, 0, 10);
        mill.order(0, 20, 2, 0, 0);
        mill.order(0, 20, 2, 0, 0);
        Check.same("6: two sets", 2, mill.plan(0));
        Check.same("6: the greater number of the lowest order first", "2 0, 0 2", Mills.rows(mill, 2, 2));
        Trimwinder next = Mills.mill(40, 6, 0, 0);
        next.order(0, 20, 2, 0, 0);
        next.order(1, 10, 2, 0, 0);
        next.order(0, 10, 2, 0, 0);
        next.order(0, 10, 2, 0, 0);
        Check.same("6: two sets of three orders", 2, next.plan(0));
        Check.same("6: other kinds take no part", "2 0 0 0, 0 0 2 2", Mills.rows(next, 2, 4));
        Trimwinder share = Mills.mill(40, 3, 0, 0);
        share.order(0, 20, 2, 0, 0);
        share.order(0, 10, 2, 0, 0);
        share.order(0, 10, 2, 0, 0);
        Check.same("6: three knives", 2, share.plan(0));
        Check.same("6: then the next order", "1 2 0, 1 0 2", Mills.rows(share, 2, 3));
        Trimwinder swap = Mills.mill(30, 2, 0, 0);
        swap.order(0, 10, 3, 1, 0);
        swap.order(0, 20, 3, 1, 0);
        Check.same("6: as few as the tolerance lets", 2, swap.plan(0));
        Check.same("6: both alike", "1 1, 1 1", Mills.rows(swap, 2, 2));
        Trimwinder tie = Mills.mill(40, 2, 0, 0);
        tie.order(0, 20, 1, 1, 0);
        tie.order(0, 20, 1, 1, 0);
        tie.order(0, 20, 1, 0, 0);
        Check.same("6: one of the two beside the third", 1, tie.plan(0));
        Check.same("6: the lower order's roll", "1 0 1", Mills.row(tie, 0, 3));
    }

    private static void promise06Limits() {
        Trimwinder mill = Mills.mill(40, 4, 0, 10);
        mill.order(0, 10, 8, 1, 0);
        mill.order(0, 10, 9, 0, 0);
        mill.order(0, 10, 6, 3, 0);
        mill.order(1, 10, 12, 3, 0);
        mill.order(0, 10, 4, 0, 0);
        Check.same("6: 10 by 10 by 10 by 5 is 5000", 6, mill.plan(0));
        mill.order(0, 10, 1, 0, 0);
        Check.refused("6: twice that", mill, NOT_NOW, () -> mill.plan(0));
        Check.same("6: the other kind is small", 3, mill.plan(1));
        Check.refused("6: too many, behind a plan", mill, NOT_NOW, () -> mill.plan(0));
        Trimwinder over = Mills.mill(40, 1, 9, 9);
        over.order(0, 10, 4, 0, 0);
        over.order(0, 10, 6, 0, 0);
        over.order(0, 10, 10, 0, 0);
        over.order(0, 10, 12, 0, 0);
        over.plan(3);
        Check.refused("6: 5 by 7 by 11 by 13 is 5005, and no pattern", over, NOT_NOW, () -> over.plan(0));
        Trimwinder long45 = Mills.mill(20, 1, 0, 20);
        long45.order(0, 20, 12, 0, 0);
        long45.order(0, 20, 12, 0, 0);
        long45.order(0, 20, 12, 0, 0);
        long45.order(0, 20, 1, 0, 0);
        Check.same("6: a set a roll", 37, long45.plan(0));
        Check.same("6: the last one", "0 0 0 1", Mills.row(long45, 36, 4));
        Check.same("6: the one before", "0 0 1 0", Mills.row(long45, 35, 4));
        Trimwinder none = Mills.mill(40, 6, 0, 2);
        none.order(0, 39, 1, 0, 0);
        none.order(1, 20, 3, 0, 0);
        none.plan(0);
        Check.refused("6: three halves", none, NONE_THERE, () -> none.plan(1));
        none.order(1, 18, 1, 0, 0);
        Check.same("6: a half and 18", 2, none.plan(1));
        Check.same("6: first two halves", "0 2 0, 0 1 1", Mills.rows(none, 2, 3));
    }

    private static void promise06Held() {
        Trimwinder mill = Mills.cutTwice();
        Check.refused("6: one of 15 more cannot be cut alone", mill, NONE_THERE, () -> mill.plan(0));
        mill.give(0, 1);
        Check.same("6: 4 held for 1 to 3", 4, mill.held(1));
        Check.refused("6: none of them is made then", mill, NONE_THERE, () -> mill.plan(0));
        mill.order(0, 25, 1, 0, 3);
        Check.same("6: besides 25", 1, mill.plan(0));
        Check.same("6: what is missing", "1 0 0 1", Mills.row(mill, 0, 4));
        mill.cut(0, 2, 0);
        Check.same("6: all are held", 0, mill.plan(0));
        mill.ship(0);
        mill.ship(3);
        Check.same("6: shipped orders take no part", 0, mill.plan(0));
        Trimwinder many = Mills.mill(60, 8, 0, 20);
        many.order(0, 7, 9, 0, 0);
        many.order(0, 7, 9, 0, 0);
        many.order(0, 7, 9, 0, 0);
        many.order(0, 7, 4, 0, 0);
        many.reel(0);
        Check.same("6: 31 rolls", 4, many.plan(0));
        many.cut(0, 0, 0);
        Check.same("6: 8 of the first", 8, many.held(0));
        many.order(0, 7, 4, 0, 0);
        Check.same("6: 2 by 10 by 10 by 5 by 5 is 5000", 4, many.plan(0));
        many.order(0, 7, 1, 0, 0);
        Check.refused("6: twice that", many, NOT_NOW, () -> many.plan(0));
    }

    private static void promise06Lost() {
        Trimwinder given = Mills.cutTwice();
        given.plan(2);
        given.give(0, 1);
        Check.refused("6: a roll given takes the plan", given, NONE_THERE, () -> given.trim());
        Trimwinder sent = Mills.cutTwice();
        sent.plan(2);
        sent.ship(1);
        Check.refused("6: an order shipped takes the plan", sent, NONE_THERE, () -> sent.moves());
        Trimwinder kept = Mills.cutTwice();
        Check.same("6: a cut leaves the plan", 5, kept.trim());
        kept.reel(3);
        kept.flaw(1, 0, 0, 1);
        Check.same("6: reels and flaws leave the plan", 5, kept.trim());
    }

    private static void promise07() {
        Trimwinder mill = Mills.wasteful(0, 5);
        Check.same("7: all", 5, mill.unused());
        mill.reel(0);
        Check.same("7: still all", 5, mill.unused());
        mill.cut(0, 2, 4);
        Check.same("7: one less", 4, mill.unused());
        mill.cut(0, 0, 0);
        Check.same("7: two less", 3, mill.unused());
        mill.order(1, 4, 1, 0, 0);
        Check.same("7: no plan", 0, mill.unused());
        mill.plan(0);
        Check.same("7: what is missing", 3, mill.unused());
    }

    private static void promise08() {
        Trimwinder mill = Mills.cutTwice();
        Check.same("8: used patterns too", "2 1 0, 1 2 0", Mills.rows(mill, 2, 3));
        Check.refused("8: no third", mill, NO_PLACE, () -> mill.patternAt(2, 0));
        Check.refused("8: none below", mill, NO_PLACE, () -> mill.patternAt(-1, 0));
        Check.refused("8: no fourth order", mill, NO_PLACE, () -> mill.patternAt(0, 3));
        Check.refused("8: no order 6", mill, NO_PLACE, () -> mill.patternAt(0, 6));
        Check.refused("8: no order below", mill, NO_PLACE, () -> mill.patternAt(0, -1));
        for (int far : FAR) {
            Check.refused("8: far pattern", mill, NO_PLACE, () -> mill.patternAt(far, 0));
            Check.refused("8: far order", mill, NO_PLACE, () -> mill.patternAt(0, far));
        }
        mill.ship(1);
        Check.refused("8: no plan", mill, NO_PLACE, () -> mill.patternAt(0, 0));
        mill.order(0, 25, 1, 0, 3);
        mill.plan(0);
        Check.same("8: 0 for a shipped one", "1 0 0 1", Mills.row(mill, 0, 4));
        mill.plan(3);
        Check.refused("8: no set", mill, NO_PLACE, () -> mill.patternAt(0, 0));
    }

    private static void promise09() {
        Trimwinder mill = Mills.wasteful(0, 5);
        Check.same("9: all trims", 80, mill.trim());
        mill.reel(0);
        mill.cut(0, 0, 0);
        Check.same("9: of the whole plan", 80, mill.trim());
        mill.plan(0);
        Check.same("9: of the new plan", 64, mill.trim());
        mill.plan(1);
        Check.same("9: of an empty plan", 0, mill.trim());
        mill.order(0, 4, 1, 0, 0);
        Check.refused("9: no plan", mill, NONE_THERE, () -> mill.trim());
    }

    private static void promise10() {
        Trimwinder mill = Mills.mill(50, 5, 1, 8);
        mill.order(1, 49, 1, 0, 0);
        Check.same("10: just one", 1, mill.bound(1));
        mill.order(1, 4, 1, 0, 0);
        Check.same("10: a little more", 2, mill.bound(1));
        mill.order(1, 45, 3, 2, 0);
        Check.same("10: 49 and 4 and 45 is 98", 2, mill.bound(1));
        mill.order(1, 50, 2, 3, 0);
        Check.same("10: none at least", 2, mill.bound(1));
        mill.order(2, 50, 1, 0, 0);
        Check.same("10: more than deckle less the least trim", 2, mill.bound(2));
        Check.same("10: without orders", 0, mill.bound(0));
        mill.ship(3);
        Check.same("10: shipped with none", 2, mill.bound(1));
        mill.plan(0);
        for (int kind : new int[] {-1, 4, Integer.MIN_VALUE, Integer.MAX_VALUE}) {
            Check.refused("10: no kind", mill, WRONG_NUMBER, () -> mill.bound(kind));
        }
        Trimwinder cut = Mills.cutTwice();
        Check.same("10: one of 15 is missing", 1, cut.bound(0));
        cut.give(0, 1);
        Check.same("10: one too many does not help", 1, cut.bound(0));
        Trimwinder lot = Mills.wasteful(0, 12);
        Check.same("10: 48 by 20", 3, lot.bound(0));
        lot.reel(0);
        lot.cut(0, 0, 0);
        lot.cut(0, 1, 1);
        Check.same("10: 40 by 20", 2, lot.bound(0));
    }

    private static void promise11() {
        Trimwinder mill = Mills.mill(40, 4, 0, 6);
        mill.order(0, 15, 3, 0, 1);
        mill.order(0, 10, 2, 1, 3);
        mill.plan(0);
        Check.same("11: 30 and 40 against 25 and 35", 4, mill.moves());
        mill.reel(0);
        mill.cut(0, 0, 1);
        Check.same("11: one alone", 0, mill.moves());
        mill.cut(0, 1, 0);
        Check.same("11: none", 0, mill.moves());
        Trimwinder sort = Mills.mill(20, 1, 0, 20);
        sort.order(0, 20, 1, 0, 0);
        sort.order(0, 10, 1, 0, 0);
        sort.order(0, 20, 1, 0, 0);
        sort.order(0, 10, 1, 0, 0);
        sort.plan(0);
        Check.same("11: the plan's own order would move 6", 2, sort.moves());
        Trimwinder path = Mills.mill(40, 3, 0, 10);
        path.order(0, 10, 3, 0, 0);
        path.order(0, 20, 3, 0, 0);
        path.order(0, 30, 2, 0, 0);
        Check.same("11: four sets", 4, path.plan(0));
        Check.same("11: rows", "2 1 0, 1 0 1, 0 2 0, 0 0 1", Mills.rows(path, 4, 3));
        // The cuts are 10 20 40, 10 40, 20 40 and 30: from 10 40 over the first to 20 40, then to 30.
        Check.same("11: the least way", 5, path.moves());
    }

    private static void promise11Limits() {
        Trimwinder mill = Mills.wasteful(0, 11);
        Check.refused("11: 11 are not used", mill, NOT_NOW, () -> mill.moves());
        mill.reel(0);
        mill.cut(0, 0, 3);
        Check.same("11: 10 are not used", 0, mill.moves());
        mill.order(0, 4, 1, 0, 0);
        Check.refused("11: no plan", mill, NONE_THERE, () -> mill.moves());
        Trimwinder ten = Mills.mill(20, 1, 0, 20);
        for (int i = 0; i < 5; i++) {
            ten.order(0, 20 - i, 2, 0, 0);
        }
        Check.same("11: ten sets", 10, ten.plan(0));
        Check.same("11: five kinds of sets, two moves between each", 8, ten.moves());
    }

    private static void promise12() {
        Trimwinder mill = Mills.mill(50, 5, 1, 8);
        mill.order(1, 17, 4, 1, 0);
        mill.order(1, 11, 3, 0, 2);
        mill.order(1, 9, 2, 2, 3);
        mill.plan(1);
        mill.reel(1);
        mill.flaw(0, 0, 0, 3);
        mill.flaw(0, 1, 20, 1);
        mill.flaw(0, 2, 49, 2);
        Check.same("12: all good", 3, mill.cut(0, 2, 0));
        Check.same("12: rolls lie by rising orders", "0 2 0 17 0 0 h", Mills.roll(mill, 0));
        Check.same("12: one behind the other", "0 2 17 17 0 0 h", Mills.roll(mill, 1));
        Check.same("12: the second order", "0 2 34 11 0 1 h", Mills.roll(mill, 2));
        Check.same("12: the trim is broke", "150 5 100 45 0", Mills.weights(mill));
        Check.same("12: shifted past the flaw", 4, mill.cut(0, 0, 1));
        Check.same("12: by one", 1, mill.shift(0, 0));
        Check.same("12: shifted rolls", "0 0 1 17 0 0 h", Mills.roll(mill, 3));
        Check.same("12: the last roll", "0 0 40 9 0 2 h", Mills.roll(mill, 6));
        Check.same("12: trim on both sides", "150 7 50 93 0", Mills.weights(mill));
        Trimwinder bad = Mills.cutTwice();
        Check.same("12: stock", "0 0 0 15 2 -1 s", Mills.roll(bad, 0));
        Check.same("12: a flaw up to the quality is good", "0 0 30 10 1 1 h", Mills.roll(bad, 2));
    }

    private static void promise12Shift() {
        int[][] flaws = {{}, {0}, {9}, {10}, {15}, {0, 39}, {4, 36}, {14, 15, 16}, {5, 15}};
        int[] shifts = {0, 1, 10, 0, 0, 1, 5, 2, 1};
        int[] goods = {2, 2, 2, 1, 1, 2, 2, 1, 1};
        for (int i = 0; i < flaws.length; i++) {
            Trimwinder mill = Mills.mill(40, 2, 0, 10);
            mill.order(0, 15, 2, 0, 0);
            mill.plan(0);
            mill.reel(0);
            for (int column : flaws[i]) {
                mill.flaw(0, 1, column, 1);
            }
            Check.same("12: good past " + i, goods[i], mill.cut(0, 1, 0));
            Check.same("12: shift past " + i, shifts[i], mill.shift(0, 1));
            Check.same("12: held past " + i, goods[i], mill.held(0));
        }
        Trimwinder mill = Mills.mill(40, 2, 0, 10);
        mill.order(0, 15, 1, 0, 2);
        mill.order(0, 15, 1, 0, 0);
        mill.plan(0);
        mill.reel(0);
        mill.flaw(0, 0, 0, 2);
        mill.flaw(0, 0, 15, 1);
        mill.flaw(0, 0, 18, 1);
        Check.same("12: each roll by its own quality", 2, mill.cut(0, 0, 0));
        Check.same("12: so that the careless order takes the flaws", 4, mill.shift(0, 0));
    }

    private static void promise12Wrong() {
        Trimwinder mill = Mills.cutTwice();
        mill.reel(1);
        int[][] nowhere = {{-1, 2, 0}, {2, 2, 0}, {12, 2, 0}, {0, -1, 0}, {0, 3, 0}, {0, 2, -1}, {0, 2, 2}, {0, 2, 64}};
        for (int[] n : nowhere) {
            Check.refused("12: nowhere", mill, NO_PLACE, () -> mill.cut(n[0], n[1], n[2]));
        }
        for (int far : FAR) {
            Check.refused("12: far reel", mill, NO_PLACE, () -> mill.cut(far, 0, 0));
            Check.refused("12: far set", mill, NO_PLACE, () -> mill.cut(0, far, 0));
            Check.refused("12: far pattern", mill, NO_PLACE, () -> mill.cut(0, 0, far));
        }
        Check.refused("12: used", mill, NOT_NOW, () -> mill.cut(0, 2, 0));
        mill.order(0, 40, 1, 0, 0);
        Check.refused("12: no plan", mill, NO_PLACE, () -> mill.cut(0, 2, 0));
        mill.order(0, 25, 1, 0, 3);
        mill.plan(0);
        Check.refused("12: cut before", mill, NOT_NOW, () -> mill.cut(0, 1, 0));
        Check.refused("12: another kind", mill, NOT_NOW, () -> mill.cut(1, 0, 0));
        Check.same("12: at last", 1, mill.cut(0, 2, 1));
        Check.same("12: the plan of another kind", 0, mill.plan(3));
        Check.refused("12: no such pattern before cut before", mill, NO_PLACE, () -> mill.cut(0, 0, 0));
    }

    private static void promise12Rolls() {
        Trimwinder mill = Mills.mill(60, 8, 0, 20);
        mill.order(0, 7, 8, 0, 0);
        mill.order(1, 7, 6, 0, 0);
        mill.order(1, 60, 1, 0, 0);
        for (int i = 0; i < 18; i++) {
            int reel = i % 3 == 0 ? mill.reel(0) : i / 3;
            for (int column = 4; column < 60; column += 7) {
                mill.flaw(reel, i % 3, column, 1);
            }
            mill.plan(0);
            Check.same("12: none is good", 0, mill.cut(reel, i % 3, 0));
        }
        Check.same("12: many rolls", 144, mill.rolls());
        mill.reel(0);
        mill.reel(1);
        mill.plan(0);
        Check.refused("12: 152 rolls", mill, WRONG_STATE, () -> mill.cut(6, 0, 0));
        Check.refused("12: 152 rolls, and cut before", mill, NOT_NOW, () -> mill.cut(5, 2, 0));
        Check.refused("12: 152 rolls, and another kind", mill, NOT_NOW, () -> mill.cut(7, 0, 0));
        Check.refused("12: 152 rolls, and no set", mill, NO_PLACE, () -> mill.cut(6, 3, 0));
        mill.plan(1);
        Check.same("12: 150 rolls", 6, mill.cut(7, 0, 0));
        Check.same("12: all rolls", 150, mill.rolls());
        Check.refused("12: 151 rolls", mill, WRONG_STATE, () -> mill.cut(7, 1, 1));
        Check.refused("12: 151 rolls, and used", mill, NOT_NOW, () -> mill.cut(7, 1, 0));
        Check.same("12: the last roll", "7 0 35 7 0 1 h", Mills.roll(mill, 149));
        Check.same("12: sound when full", true, mill.isSound());
    }

    private static void promise13() {
        Trimwinder mill = Mills.cutTwice();
        mill.reel(0);
        Check.same("13: not shifted", 0, mill.shift(0, 0));
        Check.refused("13: not cut", mill, NONE_THERE, () -> mill.shift(0, 2));
        Check.refused("13: nor the next reel", mill, NONE_THERE, () -> mill.shift(1, 0));
        Check.refused("13: no reel", mill, NO_PLACE, () -> mill.shift(2, 0));
        Check.refused("13: no reel below", mill, NO_PLACE, () -> mill.shift(-1, 0));
        Check.refused("13: no set", mill, NO_PLACE, () -> mill.shift(0, 3));
        Check.refused("13: no set below", mill, NO_PLACE, () -> mill.shift(0, -1));
        for (int far : FAR) {
            Check.refused("13: far reel", mill, NO_PLACE, () -> mill.shift(far, 0));
            Check.refused("13: far set", mill, NO_PLACE, () -> mill.shift(0, far));
        }
    }

    private static void promise14() {
        Trimwinder mill = Mills.wasteful(2, 3);
        Check.same("14: none", 0, mill.rolls());
        mill.reel(2);
        mill.cut(0, 1, 0);
        Check.same("14: one", 1, mill.rolls());
        mill.flaw(0, 0, 0, 1);
        mill.flaw(0, 0, 4, 1);
        mill.cut(0, 0, 1);
        Check.same("14: two", 2, mill.rolls());
        Check.same("14: stock, held and shipped ones", 6, Mills.cutTwice().rolls());
        Trimwinder sent = Mills.cutTwice();
        sent.ship(1);
        Check.same("14: shipped ones stay", 6, sent.rolls());
    }

    private static void promise15() {
        Trimwinder mill = Mills.cutTwice();
        Check.same("15: by sets as they are cut, then by columns", "0 1 25 10 0 1 h", Mills.roll(mill, 5));
        Check.same("15: stock", -1, mill.rollOf(0, 'o'));
        mill.give(0, 1);
        Check.same("15: given", "0 0 0 10 2 1 h", Mills.roll(mill, 0));
        for (char what : "RSCWFOahpbx \u0000\uffff".toCharArray()) {
            Check.refused("15: no such thing", mill, WRONG_NUMBER, () -> mill.rollOf(0, what));
            Check.refused("15: nor such a roll", mill, NO_PLACE, () -> mill.rollOf(6, what));
        }
        for (int no : new int[] {-1, 6, 150, Integer.MIN_VALUE, Integer.MAX_VALUE}) {
            Check.refused("15: no roll", mill, NO_PLACE, () -> mill.rollOf(no, 'w'));
        }
        Trimwinder sent = Mills.cutTwice();
        sent.ship(1);
        Check.same("15: shipped with its order", "0 1 25 10 0 1 x", Mills.roll(sent, 5));
    }

    private static void promise16() {
        Trimwinder mill = Mills.cutTwice();
        Check.same("16: stock", 's', mill.stateOf(0));
        Check.same("16: held", 'h', mill.stateOf(1));
        mill.ship(1);
        Check.same("16: shipped", 'x', mill.stateOf(2));
        Check.same("16: held for another order", 'h', mill.stateOf(1));
        Check.same("16: still stock", 's', mill.stateOf(0));
        for (int no : new int[] {-1, 6, 150, Integer.MIN_VALUE, Integer.MAX_VALUE}) {
            Check.refused("16: no roll", mill, NO_PLACE, () -> mill.stateOf(no));
        }
    }

    private static void promise17() {
        Trimwinder mill = Mills.cutTwice();
        Check.same("17: from stock", 5, mill.give(0, 1));
        Check.same("17: now held", "0 0 0 10 2 1 h", Mills.roll(mill, 0));
        Check.same("17: as many more", 4, mill.held(1));
        Check.same("17: its columns are broke", "120 10 40 70 0", Mills.weights(mill));
        Check.same("17: from another order", 5, mill.give(1, 1));
        Check.same("17: one less there", 1, mill.held(0));
        Check.same("17: first columns are kept", "0 0 15 10 0 1 h", Mills.roll(mill, 1));
        mill.order(0, 10, 1, 0, 2);
        mill.plan(3);
        Check.same("17: as wide, and the flaw is the quality", 0, mill.give(0, 3));
        Check.same("17: given again", "0 0 0 10 2 3 h", Mills.roll(mill, 0));
        Check.refused("17: the plan is gone", mill, NONE_THERE, () -> mill.trim());
        mill.ship(3);
        Check.same("17: and shipped", 'x', mill.stateOf(0));
    }

    private static void promise17Wrong() {
        Trimwinder mill = Mills.cutTwice();
        Check.refused("17: the flaw is above the quality", mill, NOT_NOW, () -> mill.give(0, 0));
        Check.refused("17: another kind", mill, NOT_NOW, () -> mill.give(1, 2));
        Check.refused("17: held for it", mill, NOT_NOW, () -> mill.give(1, 0));
        Check.refused("17: too narrow", mill, NOT_NOW, () -> mill.give(4, 0));
        for (int no : new int[] {-1, 6, 150, Integer.MIN_VALUE, Integer.MAX_VALUE}) {
            Check.refused("17: no roll", mill, NO_PLACE, () -> mill.give(no, 1));
        }
        for (int no : new int[] {-1, 3, 6, Integer.MIN_VALUE, Integer.MAX_VALUE}) {
            Check.refused("17: no order", mill, NO_PLACE, () -> mill.give(0, no));
        }
        mill.order(1, 10, 1, 0, 3);
        mill.order(0, 14, 1, 0, 3);
        mill.plan(2);
        Check.refused("17: another kind, else fit", mill, NOT_NOW, () -> mill.give(0, 3));
        mill.ship(1);
        Check.refused("17: to a shipped order", mill, NOT_NOW, () -> mill.give(0, 1));
        Check.refused("17: a shipped roll", mill, NOT_NOW, () -> mill.give(2, 4));
        mill.order(0, 4, 1, 0, 3);
        Check.refused("17: a shipped roll, else fit", mill, NOT_NOW, () -> mill.give(2, 5));
        Check.same("17: to an order that is not shipped", 1, mill.give(0, 4));
        Check.refused("17: the flaw stays, though its column may go", mill, NOT_NOW, () -> mill.give(0, 0));
    }

    private static void promise18() {
        Trimwinder mill = Mills.cutTwice();
        Check.same("18: two of three are good", 2, mill.held(0));
        Check.same("18: three", 3, mill.held(1));
        Check.same("18: none", 0, mill.held(2));
        for (int no : new int[] {-1, 3, 6, Integer.MIN_VALUE, Integer.MAX_VALUE}) {
            Check.refused("18: no order", mill, NO_PLACE, () -> mill.held(no));
        }
        mill.ship(1);
        Check.same("18: shipped", 0, mill.held(1));
        Check.same("18: the others", 2, mill.held(0));
    }

    private static void promise19() {
        Trimwinder mill = Mills.cutTwice();
        Check.same("19: as many as the tolerance lets", 3, mill.ship(1));
        Check.same("19: their weight", "120 5 40 45 30", Mills.weights(mill));
        Check.same("19: the stock stays", "0 0 0 15 2 -1 s", Mills.roll(mill, 0));
        Check.same("19: each of them", "hhxhxx", "" + mill.stateOf(1) + mill.stateOf(3) + mill.stateOf(2)
                + mill.stateOf(1) + mill.stateOf(4) + mill.stateOf(5));
        Trimwinder few = Mills.mill(40, 2, 0, 20);
        few.order(0, 20, 3, 1, 0);
        few.order(1, 20, 1, 1, 0);
        few.order(2, 20, 2, 1, 0);
        few.order(3, 20, 1, 3, 0);
        few.plan(0);
        few.reel(0);
        few.cut(0, 0, 0);
        Check.same("19: as few as the tolerance lets", 2, few.ship(0));
        Check.same("19: none", 0, few.ship(1));
        Check.refused("19: too few", few, NOT_NOW, () -> few.ship(2));
        Check.same("19: less than none would do", 0, few.ship(3));
    }

    private static void promise19Wrong() {
        Trimwinder mill = Mills.cutTwice();
        mill.plan(3);
        Check.refused("19: too few", mill, NOT_NOW, () -> mill.ship(0));
        Check.refused("19: none", mill, NOT_NOW, () -> mill.ship(2));
        mill.give(0, 1);
        mill.plan(3);
        Check.refused("19: too many", mill, NOT_NOW, () -> mill.ship(1));
        for (int no : new int[] {-1, 3, 6, Integer.MIN_VALUE, Integer.MAX_VALUE}) {
            Check.refused("19: no order", mill, NO_PLACE, () -> mill.ship(no));
        }
        mill.order(0, 10, 1, 0, 3);
        mill.give(0, 3);
        Check.same("19: no more too many", 3, mill.ship(1));
        mill.plan(3);
        Check.refused("19: twice", mill, NOT_NOW, () -> mill.ship(1));
        mill.order(2, 10, 1, 3, 3);
        Check.same("19: with none", 0, mill.ship(4));
        Check.refused("19: twice with none", mill, NOT_NOW, () -> mill.ship(4));
    }

    private static void promise20() {
        Trimwinder mill = Mills.cutTwice();
        Check.same("20: not yet", false, mill.isShipped(1));
        mill.ship(1);
        Check.same("20: it is", true, mill.isShipped(1));
        Check.same("20: not the others", false, mill.isShipped(0) || mill.isShipped(2));
        for (int no : new int[] {-1, 3, 6, Integer.MIN_VALUE, Integer.MAX_VALUE}) {
            Check.refused("20: no order", mill, NO_PLACE, () -> mill.isShipped(no));
        }
    }

    private static void promise21() {
        Trimwinder mill = Mills.mill(40, 2, 0, 10);
        mill.order(0, 15, 2, 0, 0);
        mill.order(0, 8, 1, 0, 3);
        mill.order(0, 9, 1, 1, 3);
        mill.order(1, 40, 1, 0, 0);
        mill.setMill(40, 3, 0, 10);
        Check.same("21: one set", 1, mill.plan(0));
        Check.same("21: its pattern", "2 1 0 0", Mills.row(mill, 0, 4));
        mill.reel(0);
        mill.flaw(0, 1, 8, 2);
        mill.flaw(0, 1, 14, 1);
        mill.flaw(0, 1, 37, 3);
        mill.flaw(0, 2, 20, 3);
        mill.cut(0, 1, 0);
        Check.same("21: two flaws", 2, mill.claim(0));
        Check.same("21: none", 0, mill.claim(1));
        Check.same("21: the last column", 3, mill.claim(2));
        mill.give(0, 2);
        Check.same("21: nine columns are left", 2, mill.claim(0));
        mill.order(0, 8, 1, 0, 3);
        mill.give(0, 4);
        Check.same("21: eight columns are left", 0, mill.claim(0));
        Check.same("21: the flaw stays", 2, mill.rollOf(0, 'f'));
        Check.same("21: sound all the same", true, mill.isSound());
        mill.ship(4);
        Check.same("21: of a shipped one", 0, mill.claim(0));
        for (int no : new int[] {-1, 3, 150, Integer.MIN_VALUE, Integer.MAX_VALUE}) {
            Check.refused("21: no roll", mill, NO_PLACE, () -> mill.claim(no));
        }
    }

    private static void promise22() {
        Trimwinder mill = Mills.mill(50, 5, 1, 8);
        mill.order(1, 17, 4, 1, 0);
        mill.order(1, 11, 3, 0, 2);
        mill.order(1, 9, 2, 2, 3);
        mill.order(0, 50, 2, 2, 3);
        Check.same("22: ten", 10, mill.patterns(1));
        Check.same("22: no trim left", 0, mill.patterns(0));
        Check.same("22: none", 0, mill.patterns(2));
        Check.same("22: also more than are ordered", 3, count(Mills.mill(40, 4, 0, 20), 10, 1));
        Check.same("22: no empty one", 1, count(Mills.mill(20, 1, 0, 20), 4, 1));
        Check.same("22: no empty one beside none", 0, Mills.mill(20, 1, 0, 20).patterns(0));
        Trimwinder small = Mills.mill(60, 8, 0, 20);
        for (int i = 0; i < 6; i++) {
            small.order(3, 7 + i % 2, 1, 3, 0);
        }
        Check.same("22: many", 2031, small.patterns(3));
        small.ship(5);
        small.plan(3);
        Check.same("22: without the shipped one", 906, small.patterns(3));
        for (int kind : new int[] {-1, 4, Integer.MIN_VALUE, Integer.MAX_VALUE}) {
            Check.refused("22: no kind", small, WRONG_NUMBER, () -> small.patterns(kind));
        }
        Trimwinder cut = Mills.cutTwice();
        Check.same("22: whatever is held", 3, cut.patterns(0));
    }

    private static int count(Trimwinder mill, int width, int rolls) {
        mill.order(0, width, rolls, 0, 0);
        return mill.patterns(0);
    }

    private static void promise23() {
        Trimwinder mill = Mills.cutTwice();
        Check.same("23: parts", "120 5 40 75 0", Mills.weights(mill));
        mill.give(0, 1);
        Check.same("23: cut to another width", "120 10 40 70 0", Mills.weights(mill));
        mill.reel(2);
        Check.same("23: broke is pulp again", "230 0 160 70 0", Mills.weights(mill));
        mill.order(0, 10, 1, 0, 3);
        mill.give(0, 3);
        mill.ship(3);
        Check.same("23: shipped", "230 0 160 60 10", Mills.weights(mill));
        mill.plan(3);
        for (char what : "PBURXsowq \u0000\uffff".toCharArray()) {
            Check.refused("23: no such thing", mill, WRONG_NUMBER, () -> mill.weight(what));
        }
    }

    private static void promise24() {
        Trimwinder mill = Mills.cutTwice();
        Check.same("24: 75 of 80", 0.9375f, mill.yieldShare());
        mill.give(0, 1);
        giveBack(mill);
        mill.ship(1);
        Check.same("24: as they were cut", 0.9375f, mill.yieldShare());
        mill.reel(3);
        Check.same("24: of the sets that were cut", 0.9375f, mill.yieldShare());
        Trimwinder third = Mills.mill(21, 1, 0, 20);
        third.order(0, 7, 1, 0, 0);
        third.plan(0);
        third.reel(0);
        Check.refused("24: no set was cut", third, NO_SHARE, () -> third.yieldShare());
        third.cut(0, 0, 0);
        Check.same("24: a third as a float", 7f / 21f, third.yieldShare());
    }

    /** Gives roll 0 from order 1, which holds one too many, to a new order. */
    private static void giveBack(Trimwinder mill) {
        int order = mill.order(0, 4, 1, 0, 3);
        mill.give(0, order);
    }

    private static void promise25() {
        Trimwinder mill = Mills.cutTwice();
        Check.same("25: 2 and 1 of 6", 0.5, mill.meanFlaw());
        mill.give(0, 1);
        Check.same("25: the flaws as they were", 0.5, mill.meanFlaw());
        Trimwinder third = Mills.mill(60, 3, 0, 0);
        third.order(0, 20, 3, 0, 1);
        third.plan(0);
        third.reel(0);
        third.flaw(0, 0, 59, 2);
        Check.refused("25: no rolls", third, NO_SHARE, () -> third.meanFlaw());
        third.cut(0, 0, 0);
        Check.same("25: two thirds as a double", 2.0 / 3.0, third.meanFlaw());
        Trimwinder sent = Mills.cutTwice();
        sent.ship(1);
        Check.same("25: shipped ones too", 0.5, sent.meanFlaw());
    }

    private static void promise26() {
        Trimwinder mill = Mills.cutTwice();
        Check.same("26: cut", true, mill.isSound());
        mill.give(0, 1);
        Check.same("26: given", true, mill.isSound());
        mill.reel(2);
        Check.same("26: wound", true, mill.isSound());
        giveBack(mill);
        mill.ship(1);
        Check.same("26: shipped", true, mill.isSound());
        mill.plan(3);
        Check.same("26: planned", true, mill.isSound());
        Trimwinder waste = Mills.wasteful(1, 12);
        Check.same("26: more sets than the bound", true, waste.isSound());
        waste.reel(1);
        waste.cut(0, 0, 0);
        Check.same("26: some cut", true, waste.isSound());
    }

    /** No call makes a mill unsound, so the state itself is spoilt here. */
    private static void promise26Broken() throws Exception {
        Trimwinder pulp = Mills.cutTwice();
        spoil(pulp, "pulp", 1);
        Check.same("26: pulp out of nothing", false, pulp.isSound());
        Trimwinder broke = Mills.cutTwice();
        spoil(broke, "broke", -1);
        Check.same("26: broke is lost", false, broke.isSound());
        Trimwinder quality = Mills.cutTwice();
        spoil(part(quality, "orders", 1), "quality", -3);
        Check.same("26: a flaw beyond the quality", false, quality.isSound());
        Trimwinder sent = Mills.cutTwice();
        sent.ship(1);
        spoil(part(sent, "orders", 1), "quality", -3);
        Check.same("26: shipped with a flaw beyond the quality", false, sent.isSound());
        Trimwinder map = Mills.cutTwice();
        spoil(part(map, "wound", 4), "flaw", 1);
        Check.same("26: a flaw that the map does not show", false, map.isSound());
        Trimwinder first = Mills.cutTwice();
        spoil(part(first, "wound", 0), "flaw", -1);
        Check.same("26: a flaw of the first roll that the map shows otherwise", false, first.isSound());
        Trimwinder plan = Mills.cutTwice();
        spoil(field(plan, "current").get(plan), "boundThen", 1);
        Check.same("26: fewer sets than the bound", false, plan.isSound());
    }

    private static Field field(Object of, String name) throws Exception {
        Field field = of.getClass().getDeclaredField(name);
        field.setAccessible(true);
        return field;
    }

    private static Object part(Object of, String name, int place) throws Exception {
        return ((Object[]) field(of, name).get(of))[place];
    }

    private static void spoil(Object of, String name, int more) throws Exception {
        Field field = field(of, name);
        field.setInt(of, field.getInt(of) + more);
    }
}
