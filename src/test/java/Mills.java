/** Mills that the tests begin with, and what they show as short texts. */
final class Mills {
    private Mills() {
    }

    static Trimwinder mill(int deckle, int knives, int least, int most) {
        Trimwinder mill = new Trimwinder();
        mill.setMill(deckle, knives, least, most);
        return mill;
    }

    /** A mill of the deckle 20 with one knife, whose plan cuts a roll of the width 4 from each set. */
    static Trimwinder wasteful(int kind, int rolls) {
        Trimwinder mill = mill(20, 1, 0, 20);
        mill.order(kind, 4, rolls, 0, 0);
        mill.plan(kind);
        return mill;
    }

    /** The first shared run, up to both sets being cut: roll 0 is stock with the flaw 2, the others are held. */
    static Trimwinder cutTwice() {
        Trimwinder mill = mill(40, 4, 0, 6);
        mill.order(0, 15, 3, 0, 1);
        mill.order(0, 10, 2, 1, 3);
        mill.order(1, 30, 1, 0, 0);
        mill.plan(0);
        mill.reel(0);
        mill.flaw(0, 0, 3, 2);
        mill.flaw(0, 0, 39, 1);
        mill.flaw(0, 1, 38, 2);
        mill.cut(0, 0, 0);
        mill.cut(0, 1, 1);
        return mill;
    }

    /**
     * One of two patterns is used. Order 3 is shipped with no rolls; roll 0 is stock with the flaw 2, roll 1 is held
     * for order 0, roll 2 for order 1 with the flaw 1. Reel 1 is of another kind, and has a flaw.
     */
    static Trimwinder busy() {
        Trimwinder mill = mill(40, 4, 0, 6);
        mill.order(0, 15, 3, 0, 1);
        mill.order(0, 10, 2, 1, 3);
        mill.order(1, 30, 1, 0, 0);
        mill.order(0, 12, 1, 1, 3);
        mill.order(2, 20, 2, 0, 0);
        mill.ship(3);
        mill.plan(0);
        mill.reel(0);
        mill.reel(1);
        mill.flaw(0, 0, 3, 2);
        mill.flaw(0, 0, 39, 1);
        mill.flaw(0, 1, 38, 2);
        mill.flaw(1, 2, 7, 3);
        mill.cut(0, 0, 0);
        return mill;
    }

    /** Twelve patterns are not used, kind 1 has too many rolls to plan, and kind 2 has no pattern. */
    static Trimwinder crowded() {
        Trimwinder mill = mill(20, 1, 9, 12);
        mill.order(0, 8, 12, 0, 0);
        mill.order(1, 8, 12, 3, 0);
        mill.order(1, 8, 12, 3, 0);
        mill.order(1, 8, 12, 3, 0);
        mill.order(1, 8, 1, 0, 0);
        mill.order(2, 20, 1, 0, 0);
        mill.reel(0);
        mill.plan(0);
        return mill;
    }

    /**
     * 6 orders, 12 reels (the reels 0 to 5 of kind 0 are cut, of reel 6 of kind 1 the set 0) and 150 rolls: 144 are
     * stock with the flaw 1, the last 6 are held for order 1. Pattern 1, a roll of order 3, is not used. Order 4 is
     * shipped.
     */
    static Trimwinder full() {
        Trimwinder mill = mill(60, 8, 0, 20);
        mill.order(0, 7, 8, 0, 0);
        mill.order(1, 7, 6, 0, 0);
        mill.order(0, 60, 1, 3, 3);
        mill.order(1, 60, 1, 0, 3);
        mill.order(2, 4, 1, 1, 0);
        mill.order(3, 30, 2, 0, 0);
        mill.ship(4);
        for (int i = 0; i < 18; i++) {
            int reel = i % 3 == 0 ? mill.reel(0) : i / 3;
            spoil(mill, reel, i % 3);
            mill.plan(0);
            mill.cut(reel, i % 3, 0);
        }
        for (int i = 6; i < 12; i++) {
            mill.reel(i < 8 ? 1 : i % 4);
        }
        mill.plan(1);
        mill.cut(6, 0, 0);
        return mill;
    }

    /** Flaws of which each roll of the width 7 has one, however it is shifted. */
    static void spoil(Trimwinder mill, int reel, int set) {
        for (int column = 4; column < 60; column += 7) {
            mill.flaw(reel, set, column, 1);
        }
    }

    static String row(Trimwinder mill, int pattern, int orders) {
        StringBuilder text = new StringBuilder();
        for (int i = 0; i < orders; i++) {
            text.append(i == 0 ? "" : " ").append(mill.patternAt(pattern, i));
        }
        return text.toString();
    }

    static String rows(Trimwinder mill, int sets, int orders) {
        StringBuilder text = new StringBuilder();
        for (int i = 0; i < sets; i++) {
            text.append(i == 0 ? "" : ", ").append(row(mill, i, orders));
        }
        return text.toString();
    }

    static String roll(Trimwinder mill, int roll) {
        StringBuilder text = new StringBuilder();
        for (char what : "rscwfo".toCharArray()) {
            text.append(mill.rollOf(roll, what)).append(' ');
        }
        return text.append(mill.stateOf(roll)).toString();
    }

    static String weights(Trimwinder mill) {
        StringBuilder text = new StringBuilder();
        for (char what : "pburx".toCharArray()) {
            text.append(text.length() == 0 ? "" : " ").append(mill.weight(what));
        }
        return text.toString();
    }
}
