/** What the tests share: comparing answers, and looking at all that a mill shows. */
final class Check {
    /** A call that may throw. */
    interface Call {
        Object make();
    }

    private static int wrong = 0;

    private Check() {
    }

    static void same(String what, Object due, Object got) {
        if (!due.equals(got)) {
            wrong++;
            System.out.println(what + " answered " + got + ", due is " + due);
        }
    }

    /** The answer of a call as a text: its value, or the exception's name. */
    static String answer(Call call) {
        try {
            return String.valueOf(call.make());
        } catch (RuntimeException e) {
            return "throws." + e.getClass().getSimpleName();
        }
    }

    /** The call throws just this exception, and the mill shows the same afterwards. */
    static void refused(String what, Trimwinder mill, Class<?> due, Call call) {
        String before = shown(mill);
        same(what, "throws." + due.getSimpleName(), answer(call));
        same(what + ", the mill after it", before, shown(mill));
    }

    /** All that can be asked of a mill without changing it. */
    static String shown(Trimwinder mill) {
        StringBuilder text = new StringBuilder();
        text.append("unused ").append(mill.unused());
        text.append(" trim ").append(answer(() -> mill.trim()));
        text.append(" moves ").append(answer(() -> mill.moves()));
        for (int kind = 0; kind < 4; kind++) {
            int k = kind;
            text.append("\nkind ").append(k).append(": ").append(answer(() -> mill.bound(k)));
            text.append(' ').append(answer(() -> mill.patterns(k)));
        }
        for (int order = 0; order < 6; order++) {
            int o = order;
            text.append("\norder ").append(o).append(": ").append(answer(() -> mill.held(o)));
            text.append(' ').append(answer(() -> mill.isShipped(o)));
            for (int pattern = 0; pattern < 50; pattern++) {
                int p = pattern;
                String count = answer(() -> mill.patternAt(p, o));
                if (count.startsWith("throws")) {
                    break;
                }
                text.append(' ').append(count);
            }
        }
        for (int reel = 0; reel < 12; reel++) {
            for (int set = 0; set < 3; set++) {
                int r = reel;
                int s = set;
                text.append(' ').append(answer(() -> mill.shift(r, s)));
            }
        }
        for (int roll = 0; roll < mill.rolls(); roll++) {
            text.append("\nroll ").append(roll).append(':');
            for (char what : "rscwfo".toCharArray()) {
                text.append(' ').append(mill.rollOf(roll, what));
            }
            text.append(' ').append(mill.stateOf(roll)).append(' ').append(mill.claim(roll));
        }
        text.append('\n');
        for (char what : "pburx".toCharArray()) {
            text.append(' ').append(mill.weight(what));
        }
        text.append(' ').append(answer(() -> mill.yieldShare()));
        text.append(' ').append(answer(() -> mill.meanFlaw()));
        text.append(' ').append(mill.isSound());
        return text.toString();
    }

    static void end() {
        System.out.println(wrong == 0 ? "all answers are as due" : wrong + " answers are not as due");
        if (wrong != 0) {
            System.exit(1);
        }
    }
}
