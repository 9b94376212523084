import java.util.HashMap;
import java.util.Map;

/** What the tests share: comparing answers, and looking at all that a mill shows. */
final class Check {
    /** A call that may throw. */
    interface Call {
        Object make();
    }

    /** Makes a mill, each time in the same state. */
    interface Maker {
        Trimwinder make();
    }

    /** A call on a mill. */
    interface Act {
        Object on(Trimwinder mill);
    }

    /** A call on a mill with a number. */
    interface NumberAct {
        Object on(Trimwinder mill, int number);
    }

    /** What a mill shows that was never asked, for each maker: made once, as making it takes long. */
    private static final Map<Maker, String> UNTOUCHED = new HashMap<>();

    private static int wrong = 0;

    private Check() {
    }

    static void same(String what, Object due, Object got) {
        if (!due.equals(got)) {
            wrong++;
            System.out.println(what + " answered " + got + ", due is " + due);
        }
    }

    /** The answer of a call as a text: its value, or the exception's name. */
    static String answer(Call call) {
        try {
            return String.valueOf(call.make());
        } catch (RuntimeException e) {
            return "throws." + e.getClass().getSimpleName();
        }
    }

    /** The call throws just this exception, and the mill shows the same afterwards. */
    static void refused(String what, Trimwinder mill, Class<?> due, Call call) {
        String before = shown(mill);
        same(what, "throws." + due.getSimpleName(), answer(call));
        same(what + ", the mill after it", before, shown(mill));
    }

    /** Refused twice, and all that follows is as on a mill that was never asked. */
    static void changesNothing(String what, Maker maker, Class<?> due, Act act) {
        String untouched = UNTOUCHED.computeIfAbsent(maker, m -> follow(m.make(), m.make(), m.make()));
        Trimwinder mill = maker.make();
        String name = "throws." + due.getSimpleName();
        same(what, name, answer(() -> act.on(mill)));
        same(what + ", again", name, answer(() -> act.on(mill)));
        Trimwinder told = maker.make();
        answer(() -> act.on(told));
        Trimwinder set = maker.make();
        answer(() -> act.on(set));
        same(what + ", what the mill shows after it", untouched, follow(mill, told, set));
    }

    /** All that mills in the same state show, what follows then, their maps and their numbers. */
    private static String follow(Trimwinder mill, Trimwinder told, Trimwinder set) {
        return shown(mill) + future(mill) + maps(told) + reset(set);
    }

    /** Just the numbers from the least to the greatest one are taken, each on a new mill; the others change nothing. */
    static void range(String what, Maker maker, int least, int greatest, Class<?> due, NumberAct act) {
        for (int i = least - 3; i <= greatest + 3; i++) {
            int number = i;
            if (number >= least && number <= greatest) {
                Trimwinder mill = maker.make();
                String got = answer(() -> act.on(mill, number));
                same(what + " " + number + " is taken, not " + got, false, got.startsWith("throws"));
            } else {
                changesNothing(what + " " + number, maker, due, mill -> act.on(mill, number));
            }
        }
        for (int far : new int[] {Integer.MIN_VALUE, Integer.MIN_VALUE + 1, Integer.MAX_VALUE}) {
            changesNothing(what + " " + far, maker, due, mill -> act.on(mill, far));
        }
    }

    /** The flaws of all columns: each column is told the least flaw, and answers which counts. */
    private static String maps(Trimwinder mill) {
        StringBuilder text = new StringBuilder();
        for (int i = 0; i < 12 * 3 * 60 && hasReel(mill, i / 180); i++) {
            int place = i;
            text.append(answer(() -> mill.flaw(place / 180, place / 60 % 3, place % 60, 1))).append(' ');
        }
        return text.toString();
    }

    /** The deckle, and how many patterns there are of small rolls, which tells the knives and the trims. */
    private static String reset(Trimwinder mill) {
        StringBuilder text = new StringBuilder();
        for (int width = 4; width < 10; width++) {
            int w = width;
            text.append(answer(() -> mill.order(3, w, 1, 0, 0))).append(' ');
            text.append(mill.patterns(3)).append(' ').append(mill.bound(3)).append(' ');
        }
        text.append(answer(() -> mill.setMill(60, 8, 0, 20)));
        return text.append(shown(mill)).toString();
    }

    /** Cuts, gives, plans, ships and winds all that can be, and tells all answers. */
    private static String future(Trimwinder mill) {
        StringBuilder text = new StringBuilder();
        cutAll(mill, text);
        for (int i = 0; i < 4; i++) {
            int kind = i;
            text.append("\nplan ").append(answer(() -> mill.plan(kind))).append(shown(mill));
            cutAll(mill, text);
        }
        for (int i = 0; i < mill.rolls() * 6; i++) {
            int place = i;
            text.append(answer(() -> mill.give(place / 6, place % 6))).append(' ');
        }
        for (int i = 0; i < 6; i++) {
            int order = i;
            text.append("\nship ").append(answer(() -> mill.ship(order)));
        }
        for (int i = 0; i < 13; i++) {
            int number = i;
            text.append("\nreel ").append(answer(() -> mill.reel(number % 4)));
            text.append(" order ").append(answer(() -> mill.order(number % 4, 4 + number, 1, 0, 0)));
        }
        return text.append(shown(mill)).toString();
    }

    private static void cutAll(Trimwinder mill, StringBuilder text) {
        int patterns = 0;
        while (patterns < 100 && hasPattern(mill, patterns)) {
            patterns++;
        }
        for (int i = 0; i < 36 * patterns && hasReel(mill, i / patterns / 3); i++) {
            int place = i / patterns;
            int pattern = i % patterns;
            text.append(answer(() -> mill.cut(place / 3, place % 3, pattern))).append(' ');
        }
    }

    private static boolean hasPattern(Trimwinder mill, int pattern) {
        return !answer(() -> mill.patternAt(pattern, 0)).startsWith("throws");
    }

    private static boolean hasReel(Trimwinder mill, int reel) {
        return !answer(() -> mill.shift(reel, 0)).equals("throws.IndexOutOfBoundsException");
    }

    /** All that can be asked of a mill without changing it. */
    static String shown(Trimwinder mill) {
        StringBuilder text = new StringBuilder();
        text.append("unused ").append(mill.unused());
        text.append(" trim ").append(answer(() -> mill.trim()));
        text.append(" moves ").append(answer(() -> mill.moves()));
        for (int kind = 0; kind < 4; kind++) {
            int k = kind;
            text.append("\nkind ").append(k).append(": ").append(answer(() -> mill.bound(k)));
            text.append(' ').append(answer(() -> mill.patterns(k)));
        }
        for (int order = 0; order < 6; order++) {
            int o = order;
            text.append("\norder ").append(o).append(": ").append(answer(() -> mill.held(o)));
            text.append(' ').append(answer(() -> mill.isShipped(o)));
            for (int pattern = 0; pattern < 50; pattern++) {
                int p = pattern;
                String count = answer(() -> mill.patternAt(p, o));
                if (count.startsWith("throws")) {
                    break;
                }
                text.append(' ').append(count);
            }
        }
        for (int reel = 0; reel < 12; reel++) {
            for (int set = 0; set < 3; set++) {
                int r = reel;
                int s = set;
                text.append(' ').append(answer(() -> mill.shift(r, s)));
            }
        }
        for (int roll = 0; roll < mill.rolls(); roll++) {
            text.append("\nroll ").append(roll).append(':');
            for (char what : "rscwfo".toCharArray()) {
                text.append(' ').append(mill.rollOf(roll, what));
            }
            text.append(' ').append(mill.stateOf(roll)).append(' ').append(mill.claim(roll));
        }
        text.append('\n');
        for (char what : "pburx".toCharArray()) {
            text.append(' ').append(mill.weight(what));
        }
        text.append(' ').append(answer(() -> mill.yieldShare()));
        text.append(' ').append(answer(() -> mill.meanFlaw()));
        text.append(' ').append(mill.isSound());
        return text.toString();
    }

    static void end() {
        System.out.println(wrong == 0 ? "all answers are as due" : wrong + " answers are not as due");
        if (wrong != 0) {
            System.exit(1);
        }
    }
}
