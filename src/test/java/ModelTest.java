import java.util.Random;

/** Random runs of calls, with fixed seeds, each call answered alike by the class and by the model. */
public final class ModelTest {
    private static final int RUNS = 2000;
    private static final String[] CALLS = {
        "setMill", "order", "order", "reel", "flaw", "flaw", "flaw", "flaw", "plan", "plan", "unused", "patternAt",
        "patternAt", "trim", "bound", "moves", "cut", "cut", "cut", "cut", "cut", "cut", "shift", "rolls",
        "rollOf", "rollOf", "stateOf", "give", "give", "give", "held", "ship", "isShipped", "claim", "patterns",
        "weight", "yieldShare", "meanFlaw", "isSound"};

    private final Random random;
    private final Trimwinder mill = new Trimwinder();
    private final Model model = new Model();
    private String told = "";
    private String got = "";

    private ModelTest(long seed) {
        random = new Random(seed);
    }

    public static void main(String[] args) {
        int forced = 0;
        int shipped = 0;
        int stock = 0;
        int rolls = 0;
        int moved = 0;
        for (int seed = 0; seed < RUNS; seed++) {
            ModelTest run = new ModelTest(seed);
            run.go(seed);
            forced += run.model.bruteForced;
            for (Model.Order order : run.model.orders) {
                shipped += order.shipped ? 1 : 0;
            }
            for (Model.Roll roll : run.model.rolls) {
                stock += roll.state == 's' ? 1 : 0;
            }
            rolls += run.model.rolls.size();
            for (Model.Reel reel : run.model.reels) {
                for (int shift : reel.shift) {
                    moved += shift > 0 ? 1 : 0;
                }
            }
        }
        System.out.println(forced + " plans by force too, " + rolls + " rolls, " + stock + " of them stock at the end, "
                + moved + " sets shifted, " + shipped + " orders shipped");
        boolean enough = forced > 5000 && rolls > 5000 && stock > 1000 && moved > 200 && shipped > 1000;
        Check.same("the runs went far enough", true, enough);
        Check.end();
    }

    private void go(int seed) {
        startMill(seed);
        int calls = 60 + random.nextInt(380);
        for (int i = 0; i < calls; i++) {
            make(CALLS[random.nextInt(CALLS.length)]);
            String due = got;
            Check.same("seed " + seed + ", call " + i + ": " + told, due, answer);
        }
        Check.same("seed " + seed + " is sound", true, mill.isSound());
    }

    private String answer = "";

    private void startMill(int seed) {
        int deckle = 20 + random.nextInt(41);
        int knives = 1 + random.nextInt(8);
        int least = random.nextInt(3) == 0 ? random.nextInt(10) : 0;
        int most = Math.max(least, random.nextBoolean() ? 20 : random.nextInt(21));
        call("setMill", model.setMill(deckle, knives, least, most), () -> mill.setMill(deckle, knives, least, most));
        Check.same("seed " + seed + ": " + told, got, answer);
    }

    private void call(String what, String due, Check.Call made) {
        told = what;
        got = due;
        answer = Check.answer(made);
    }

    /** A number from 0 to one below the end, now and then one just outside, rarely one far out. */
    private int near(int end) {
        int luck = random.nextInt(60);
        if (luck == 0) {
            return -1;
        }
        if (luck == 1) {
            return end;
        }
        if (luck == 2) {
            return random.nextInt();
        }
        return end <= 0 ? 0 : random.nextInt(end);
    }

    private int from(int first, int last) {
        return random.nextInt(30) == 0 ? first + near(last - first + 1) : first + random.nextInt(last - first + 1);
    }

    private char sign(String of) {
        return random.nextInt(20) == 0 ? (char) random.nextInt(200) : of.charAt(random.nextInt(of.length()));
    }

    private void make(String name) {
        switch (name) {
            case "setMill":
                makeSetMill();
                break;
            case "order":
                makeOrder();
                break;
            case "reel":
            case "plan":
            case "bound":
            case "patterns":
                makeOfKind(name);
                break;
            case "flaw":
                makeFlaw();
                break;
            case "cut":
                makeCut();
                break;
            case "give":
                makeGive();
                break;
            case "unused":
            case "trim":
            case "moves":
            case "rolls":
            case "yieldShare":
            case "meanFlaw":
            case "isSound":
                makeBare(name);
                break;
            case "rollOf":
            case "stateOf":
            case "claim":
                makeOfRoll(name);
                break;
            default:
                makeOther(name);
        }
    }

    private void makeSetMill() {
        if (random.nextInt(4) > 0) {
            makeBare("trim");
            return;
        }
        int d = from(20, 60);
        int k = from(1, 8);
        int l = from(0, 9);
        int m = from(0, 20);
        call("setMill " + d + " " + k + " " + l + " " + m, model.setMill(d, k, l, m), () -> mill.setMill(d, k, l, m));
    }

    private void makeOrder() {
        int k = random.nextInt(3) > 0 ? 0 : from(0, 3);
        int w = random.nextBoolean() ? from(4, 60) : from(4, Math.max(4, model.deckle / 2));
        int r = random.nextBoolean() ? from(1, 12) : from(1, 4);
        int t = from(0, 3);
        int q = random.nextBoolean() ? 0 : from(0, 3);
        call("order " + k + " " + w + " " + r + " " + t + " " + q, model.order(k, w, r, t, q),
                () -> mill.order(k, w, r, t, q));
    }

    private void makeOfKind(String name) {
        int k = random.nextInt(5) > 0 ? 0 : near(4);
        String what = name + " " + k;
        if (name.equals("reel")) {
            call(what, model.reel(k), () -> mill.reel(k));
        } else if (name.equals("plan")) {
            call(what, model.plan(k), () -> mill.plan(k));
        } else if (name.equals("bound")) {
            call(what, model.bound(k), () -> mill.bound(k));
        } else {
            call(what, model.patterns(k), () -> mill.patterns(k));
        }
    }

    private void makeFlaw() {
        int r = near(model.reels.size());
        int s = near(3);
        int c = near(model.deckle);
        int f = from(1, 3);
        call("flaw " + r + " " + s + " " + c + " " + f, model.flaw(r, s, c, f), () -> mill.flaw(r, s, c, f));
    }

    /** Mostly a cut that the reel and the plan allow: numbers drawn blindly would seldom hit one. */
    private void makeCut() {
        int reel = near(model.reels.size());
        int set = near(3);
        int pattern = near(model.plan == null ? 0 : model.plan.size());
        for (int tries = 0; tries < 40 && random.nextInt(40) > 0 && !isAllowedCut(reel, set, pattern); tries++) {
            reel = near(model.reels.size());
            set = near(3);
            pattern = near(model.plan == null ? 0 : model.plan.size());
        }
        int r = reel;
        int s = set;
        int p = pattern;
        call("cut " + r + " " + s + " " + p, model.cut(r, s, p), () -> mill.cut(r, s, p));
    }

    private boolean isAllowedCut(int reel, int set, int pattern) {
        return model.plan != null && reel >= 0 && reel < model.reels.size() && set >= 0 && set < 3
                && model.reels.get(reel).kind == model.planKind && model.reels.get(reel).shift[set] < 0
                && pattern >= 0 && pattern < model.plan.size() && !model.usedPatterns.contains(pattern);
    }

    /** Given seldom, as it takes the plan away. */
    private void makeGive() {
        int r = near(model.rolls.size());
        int o = random.nextInt(3) == 0 ? near(model.orders.size()) : -1;
        call("give " + r + " " + o, model.give(r, o), () -> mill.give(r, o));
    }

    private void makeBare(String name) {
        if (name.equals("unused")) {
            call(name, model.unused(), () -> mill.unused());
        } else if (name.equals("trim")) {
            call(name, model.trim(), () -> mill.trim());
        } else if (name.equals("moves")) {
            call(name, model.moves(), () -> mill.moves());
        } else if (name.equals("rolls")) {
            call(name, "" + model.rolls.size(), () -> mill.rolls());
        } else if (name.equals("yieldShare")) {
            call(name, model.yieldShare(), () -> mill.yieldShare());
        } else if (name.equals("meanFlaw")) {
            call(name, model.meanFlaw(), () -> mill.meanFlaw());
        } else {
            call(name, "true", () -> mill.isSound());
        }
    }

    private void makeOfRoll(String name) {
        int r = near(model.rolls.size());
        if (name.equals("rollOf")) {
            char w = sign("rscwfo");
            call(name + " " + r + " " + (int) w, model.rollOf(r, w), () -> mill.rollOf(r, w));
        } else if (name.equals("stateOf")) {
            call(name + " " + r, model.stateOf(r), () -> mill.stateOf(r));
        } else {
            call(name + " " + r, model.claim(r), () -> mill.claim(r));
        }
    }

    private void makeOther(String name) {
        int o = near(model.orders.size());
        if (name.equals("patternAt")) {
            int p = near(model.plan == null ? 0 : model.plan.size());
            call(name + " " + p + " " + o, model.patternAt(p, o), () -> mill.patternAt(p, o));
        } else if (name.equals("shift")) {
            int r = near(model.reels.size());
            int s = near(3);
            call(name + " " + r + " " + s, model.shift(r, s), () -> mill.shift(r, s));
        } else if (name.equals("held")) {
            call(name + " " + o, model.held(o), () -> mill.held(o));
        } else if (name.equals("ship")) {
            call(name + " " + o, model.ship(o), () -> mill.ship(o));
        } else if (name.equals("isShipped")) {
            call(name + " " + o, model.isShipped(o), () -> mill.isShipped(o));
        } else {
            char w = sign("pburx");
            call("weight " + (int) w, model.weight(w), () -> mill.weight(w));
        }
    }
}
