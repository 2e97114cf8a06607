/** Long runs of calls, rolled from fixed seeds, answered by SkyPlan and by NaivePlanner alike. */
public final class RandomRunTest {
    private static final int RUNS = 120;
    private static final int CALLS = 512;
    private static final int CALLS_BEHIND = 100;
    private static final String ANSWER_OR_OURS =
            "-?[0-9.E-]+|true|false|java\\.lang\\.(IllegalArgument|IllegalState|IndexOutOfBounds)Exception";
    private static final int[] WILD = {Integer.MIN_VALUE, Integer.MAX_VALUE, Integer.MIN_VALUE + 1, -1, 1 << 20};

    private final SkyPlan plan = new SkyPlan();
    private final NaivePlanner naive = new NaivePlanner();
    private long seed;

    private RandomRunTest(long seed) {
        this.seed = seed;
    }

    public static void main(String[] args) {
        Checks checks = new Checks();
        for (int run = 1; run <= RUNS; run++) {
            RandomRunTest test = new RandomRunTest(run);
            test.compare(checks, run);
            test.goOn(checks, run);
        }
        checks.end();
    }

    private void compare(Checks checks, int run) {
        for (int call = 0; call < CALLS; call++) {
            int kind = kindOfCall(call);
            int[] a = arguments(kind);
            String due = answer(kind, a, true);
            String got = answer(kind, a, false);
            if (!got.equals(due)) {
                checks.judge(false, "run " + run + ", call " + call + ", kind " + kind + " "
                        + java.util.Arrays.toString(a) + " answered " + got + ", due is " + due);
                return;
            }
        }
        checks.judge(true, "");
    }

    /** "what later calls answer is free": but they throw nothing that the program doesn't throw itself. */
    private void goOn(Checks checks, int run) {
        for (int call = CALLS; call < CALLS + CALLS_BEHIND; call++) {
            int kind = kindOfCall(call);
            int[] a = arguments(kind);
            String got = answer(kind, a, false);
            checks.judge(got.matches(ANSWER_OR_OURS), "run " + run + ", call " + call + ", kind " + kind + " "
                    + java.util.Arrays.toString(a) + " answered " + got);
        }
    }

    private int roll(int below) {
        seed = seed * 6364136223846793005L + 1442695040888963407L;
        return (int) ((seed >>> 33) % below);
    }

    /** Mostly inside the bounds, at times at an edge, beside it or far away. */
    private int within(int least, int greatest) {
        int luck = roll(60);
        if (luck == 0) {
            return WILD[roll(WILD.length)];
        }
        if (luck == 1) {
            return roll(2) == 0 ? least - 1 : greatest + 1;
        }
        if (luck < 6) {
            return roll(2) == 0 ? least : greatest;
        }
        return least + roll(greatest - least + 1);
    }

    private int kindOfCall(int call) {
        if (call < 12) {
            return 5;
        }
        int kind = roll(26);
        boolean isDear = kind == 23 || kind == 14 && roll(2) == 0;
        boolean endsNight = kind == 19 || kind == 20;
        if (isDear && roll(4) != 0 || endsNight && roll(3) == 0) {
            return 16;
        }
        return kind > 23 ? 16 : kind;
    }

    private int someTarget() {
        return within(0, Math.max(0, naive.targets.size() - 1));
    }

    private int someMinute() {
        return within(0, naive.length - 1);
    }

    private int[] arguments(int kind) {
        switch (kind) {
            case 0:
                return new int[] {within(-90, 90), within(0, 1439)};
            case 1:
                return new int[] {roll(3) == 0 ? within(60, 900) : within(60, 240)};
            case 2:
                return new int[] {within(0, 1439), within(-90, 90), within(0, 29)};
            case 3:
                int from = someMinute();
                return new int[] {from, roll(5) == 0 ? someMinute() : from + roll(40)};
            case 4:
                return new int[] {within(-10000, 10000)};
            case 5:
                return new int[] {within(0, 1439), within(-60, 90), within(0, 3), within(1, 9), within(5, 40)};
            case 6:
                return new int[] {someTarget(), roll(3) == 0 ? within(-1000, 1000) : within(-100, 500),
                    within(1, 10), within(1, 20)};
            case 7:
                return new int[] {someTarget(), within(0, 9)};
            case 8:
            case 12:
                return new int[] {someTarget(), someMinute()};
            case 9:
                return new int[] {someTarget(), someTarget()};
            case 10:
            case 14:
                return new int[] {someTarget()};
            case 11:
                return new int[] {someMinute()};
            case 13:
                return new int[] {someTarget(), within(0, 4)};
            case 15:
                return new int[] {within(0, 3)};
            case 17:
                return new int[] {within(0, 6), within(0, 3)};
            case 20:
                return new int[] {roll(3) == 0 ? within(1, 60) : within(1, 3)};
            default:
                return new int[0];
        }
    }

    private String answer(int kind, int[] a, boolean isNaive) {
        try {
            return isNaive ? naiveAnswer(kind, a) : planAnswer(kind, a);
        } catch (RuntimeException thrown) {
            return isNaive ? thrown.getClass().getName() : Checks.nameOf(thrown);
        }
    }

    private String planAnswer(int kind, int[] a) {
        switch (kind) {
            case 0: return "" + plan.setSite(a[0], a[1]);
            case 1: return "" + plan.setLength(a[0]);
            case 2: return "" + plan.setMoon(a[0], a[1], a[2]);
            case 3: return "" + plan.addClouds(a[0], a[1]);
            case 4: return "" + plan.sine(a[0]);
            case 5: return "" + plan.addTarget(a[0], a[1], a[2], a[3], a[4]);
            case 6: return "" + plan.want(a[0], a[1], a[2], a[3]);
            case 7: return "" + plan.target(a[0], a[1]);
            case 8: return "" + plan.height(a[0], a[1]);
            case 9: return "" + plan.nearness(a[0], a[1]);
            case 10: return "" + plan.moonNearness(a[0]);
            case 11: return "" + plan.moonHeight(a[0]);
            case 12: return "" + plan.reason(a[0], a[1]);
            case 13: return "" + plan.window(a[0], a[1]);
            case 14: return "" + plan.isOpen(a[0]);
            case 15: return "" + plan.count(a[0]);
            case 16: return "" + plan.visits();
            case 17: return "" + plan.visit(a[0], a[1]);
            case 18: return "" + plan.use();
            case 19: return "" + plan.observe();
            case 20: return "" + plan.pass(a[0]);
            case 21: return "" + plan.night();
            case 22: return "" + plan.light();
            default: return "" + plan.digest();
        }
    }

    private String naiveAnswer(int kind, int[] a) {
        switch (kind) {
            case 0: return "" + naive.setSite(a[0], a[1]);
            case 1: return "" + naive.setLength(a[0]);
            case 2: return "" + naive.setMoon(a[0], a[1], a[2]);
            case 3: return "" + naive.addClouds(a[0], a[1]);
            case 4: return "" + naive.sine(a[0]);
            case 5: return "" + naive.addTarget(a[0], a[1], a[2], a[3], a[4]);
            case 6: return "" + naive.want(a[0], a[1], a[2], a[3]);
            case 7: return "" + naive.target(a[0], a[1]);
            case 8: return "" + naive.height(a[0], a[1]);
            case 9: return "" + naive.nearness(a[0], a[1]);
            case 10: return "" + naive.moonNearness(a[0]);
            case 11: return "" + naive.moonHeight(a[0]);
            case 12: return "" + naive.reason(a[0], a[1]);
            case 13: return "" + naive.window(a[0], a[1]);
            case 14: return "" + naive.isOpen(a[0]);
            case 15: return "" + naive.count(a[0]);
            case 16: return "" + naive.visits();
            case 17: return "" + naive.visit(a[0], a[1]);
            case 18: return "" + naive.use();
            case 19: return "" + naive.observe();
            case 20: return "" + naive.pass(a[0]);
            case 21: return "" + naive.night;
            case 22: return "" + naive.light();
            default: return "" + naive.digest();
        }
    }
}
