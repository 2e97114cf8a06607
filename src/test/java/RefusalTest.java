/**
 * "A method that throws an exception changes nothing. If several exceptions apply, the one that is
 * named first is thrown."
 */
public final class RefusalTest {
    private static final Checks CHECKS = new Checks();
    private static final Edges EDGES = new Edges(CHECKS);
    private static final int MIN = Integer.MIN_VALUE;
    private static final int MAX = Integer.MAX_VALUE;
    private static final int[] ONCE = {0};

    public static void main(String[] args) {
        cloudsToldEightTimes();
        cloudsOfAShorterNight();
        refusedCloudsDoNotCount();
        cloudsOfTheNextNight();
        twentyTargets();
        refusedTargetsTakeNoNumber();
        wantNamesTheTargetFirst();
        timesNameTheTargetFirst();
        allWrongAtOnce();
        observeOnTheLastNight();
        passOnTheLastNight();
        refusedInEachState();
        CHECKS.end();
    }

    private static void refuses(Class<?> due, String name, Edges.Start start, Edges.Call call) {
        EDGES.refusesAll(name, due, start, ONCE, call);
    }

    /** "if clouds were told 8 times", and the wrong argument before it. */
    private static void cloudsToldEightTimes() {
        Edges.Start start = Starts::full;
        refuses(Edges.BAD_STATE, "clouds for the 9th time", start, (x, none) -> x.addClouds(0, 0));
        refuses(Edges.BAD_STATE, "all the night for the 9th time", start, (x, none) -> x.addClouds(0, 899));
        refuses(Edges.BAD_STATE, "the last minute for the 9th time", start, (x, none) -> x.addClouds(899, 899));
        refuses(Edges.BAD_STATE, "told before, for the 9th time", start, (x, none) -> x.addClouds(99, 99));
        refuses(Edges.BAD_ARGUMENT, "from -1 for the 9th time", start, (x, none) -> x.addClouds(-1, 0));
        refuses(Edges.BAD_ARGUMENT, "1 to 0 for the 9th time", start, (x, none) -> x.addClouds(1, 0));
        refuses(Edges.BAD_ARGUMENT, "to 900 for the 9th time", start, (x, none) -> x.addClouds(0, 900));
        refuses(Edges.BAD_ARGUMENT, "all wrong for the 9th time", start, (x, none) -> x.addClouds(MAX, MIN));
    }

    /** Clouds that the night has become too short for were told all the same. */
    private static void cloudsOfAShorterNight() {
        Edges.Start start = () -> {
            SkyPlan x = Starts.full();
            x.setLength(60);
            return x;
        };
        refuses(Edges.BAD_STATE, "clouds in a night made shorter", start, (x, none) -> x.addClouds(0, 59));
        refuses(Edges.BAD_ARGUMENT, "to 60 in a night made shorter", start, (x, none) -> x.addClouds(0, 60));
    }

    private static void refusedCloudsDoNotCount() {
        SkyPlan x = Starts.pole();
        int[][] wrong = {{-1, 5}, {6, 5}, {0, 60}, {60, 60}, {MIN, MAX}, {MAX, MIN}, {-2, -1}, {59, 60}};
        for (int[] row : wrong) {
            CHECKS.due("clouds", Edges.answerOf(x, 0, (y, none) -> y.addClouds(row[0], row[1])).contains("Argument"), true);
        }
        for (int time = 0; time < 8; time++) {
            CHECKS.due("addClouds behind refused ones", x.addClouds(time, time), 59 - time);
        }
        CHECKS.badState(x, "addClouds for the 9th time", () -> x.addClouds(8, 8));
        CHECKS.badState(x, "addClouds for the 10th time", () -> x.addClouds(8, 8));
        CHECKS.due("minutes without clouds", x.addTarget(0, 90, 0, 1, 5) == 0 ? x.window(0, 2) : -1, 52);
    }

    /** "At most 8 times of this night can be told" */
    private static void cloudsOfTheNextNight() {
        SkyPlan x = Starts.pole();
        for (int night = 0; night < 3; night++) {
            for (int time = 0; time < 8; time++) {
                CHECKS.due("addClouds", x.addClouds(7 * time, 7 * time), 59 - time);
            }
            CHECKS.badState(x, "addClouds for the 9th time", () -> x.addClouds(1, 1));
            if (night == 0) {
                x.observe();
            } else {
                x.pass(1);
            }
        }
    }

    /** "if there are 20", and the wrong argument before it. */
    private static void twentyTargets() {
        Edges.Start start = Starts::full;
        refuses(Edges.BAD_STATE, "the 21st target", start, (x, none) -> x.addTarget(0, 0, 0, 1, 5));
        refuses(Edges.BAD_STATE, "the 21st target", start, (x, none) -> x.addTarget(1439, 90, 3, 9, 120));
        refuses(Edges.BAD_ARGUMENT, "the 21st, its rise", start, (x, none) -> x.addTarget(1440, 0, 0, 1, 5));
        refuses(Edges.BAD_ARGUMENT, "the 21st, its declination", start, (x, none) -> x.addTarget(0, -91, 0, 1, 5));
        refuses(Edges.BAD_ARGUMENT, "the 21st, its filter", start, (x, none) -> x.addTarget(0, 0, 4, 1, 5));
        refuses(Edges.BAD_ARGUMENT, "the 21st, its rank", start, (x, none) -> x.addTarget(0, 0, 0, 0, 5));
        refuses(Edges.BAD_ARGUMENT, "the 21st, its minutes", start, (x, none) -> x.addTarget(0, 0, 0, 1, 4));
        refuses(Edges.BAD_ARGUMENT, "the 21st, all wrong", start, (x, none) -> x.addTarget(MAX, MIN, MAX, MIN, MAX));
    }

    /** "numbered from 0 in the order of their creation": one that was refused was not created. */
    private static void refusedTargetsTakeNoNumber() {
        SkyPlan x = new SkyPlan();
        for (int number = 0; number < 20; number++) {
            CHECKS.badArgument(x, "a wrong target", () -> x.addTarget(0, 0, 0, 1, 121));
            CHECKS.due("addTarget", x.addTarget(number, -number, 0, 1, 5 + number), number);
            CHECKS.due("count(0)", x.count(0), number + 1);
        }
        CHECKS.badState(x, "the 21st target", () -> x.addTarget(0, 0, 0, 1, 5));
        CHECKS.due("count(0)", x.count(0), 20);
        for (int number = 0; number < 20; number++) {
            CHECKS.due("its rise", x.target(number, 0), number);
            CHECKS.due("its minutes", x.target(number, 5), 5 + number);
        }
    }

    private static void wantNamesTheTargetFirst() {
        Edges.Start start = Starts::midway;
        refuses(Edges.BAD_INDEX, "want(3, 1001, 1, 1)", start, (x, none) -> x.want(3, 1001, 1, 1));
        refuses(Edges.BAD_INDEX, "want(-1, 0, 0, 1)", start, (x, none) -> x.want(-1, 0, 0, 1));
        refuses(Edges.BAD_INDEX, "want(3, 0, 1, 21)", start, (x, none) -> x.want(3, 0, 1, 21));
        refuses(Edges.BAD_INDEX, "want, all wrong", start, (x, none) -> x.want(MIN, MIN, MIN, MIN));
        refuses(Edges.BAD_INDEX, "want without targets", SkyPlan::new, (x, none) -> x.want(0, MAX, MAX, MAX));
        refuses(Edges.BAD_ARGUMENT, "want of a target", start, (x, none) -> x.want(0, MAX, MAX, MAX));
    }

    private static void timesNameTheTargetFirst() {
        Edges.Start start = Starts::midway;
        int[][] rows = {{3, 333}, {-1, -1}, {3, -1}, {-1, 333}, {MIN, MAX}, {MAX, MIN}};
        for (int[] row : rows) {
            refuses(Edges.BAD_INDEX, "height, both wrong", start, (x, none) -> x.height(row[0], row[1]));
            refuses(Edges.BAD_INDEX, "reason, both wrong", start, (x, none) -> x.reason(row[0], row[1]));
        }
        refuses(Edges.BAD_INDEX, "height without targets", SkyPlan::new, (x, none) -> x.height(0, 600));
        refuses(Edges.BAD_INDEX, "reason without targets", SkyPlan::new, (x, none) -> x.reason(0, 600));
        refuses(Edges.BAD_ARGUMENT, "height, its time alone", start, (x, none) -> x.height(2, 333));
        refuses(Edges.BAD_ARGUMENT, "reason, its time alone", start, (x, none) -> x.reason(2, 333));
    }

    private static void allWrongAtOnce() {
        Edges.Start[] starts = {SkyPlan::new, Starts::midway, Starts::full};
        for (Edges.Start start : starts) {
            refuses(Edges.BAD_ARGUMENT, "setSite, both wrong", start, (x, none) -> x.setSite(91, 1440));
            refuses(Edges.BAD_ARGUMENT, "setMoon, all wrong", start, (x, none) -> x.setMoon(-1, 91, 30));
            refuses(Edges.BAD_ARGUMENT, "addClouds, both wrong", start, (x, none) -> x.addClouds(-1, -2));
            refuses(Edges.BAD_INDEX, "target, both wrong", start, (x, none) -> x.target(20, 10));
            refuses(Edges.BAD_INDEX, "nearness, both wrong", start, (x, none) -> x.nearness(-1, 20));
            refuses(Edges.BAD_INDEX, "window, both wrong", start, (x, none) -> x.window(-1, 5));
            refuses(Edges.BAD_INDEX, "visit, both wrong", start, (x, none) -> x.visit(20, 4));
        }
    }

    /** "if it is night 60": what the plan of that night would do stays undone. */
    private static void observeOnTheLastNight() {
        refuses(Edges.BAD_STATE, "observe on night 60", Starts::full, (x, none) -> x.observe());
        refuses(Edges.BAD_STATE, "observe on night 60, nothing to do", () -> emptyOnNight(60),
                (x, none) -> x.observe());
        CHECKS.due("observe on night 59", emptyOnNight(59).observe(), 0);
        SkyPlan x = Starts.full();
        CHECKS.due("visits", x.visits(), 20);
        CHECKS.badState(x, "observe", () -> x.observe());
        CHECKS.due("visits", x.visits(), 20);
        CHECKS.due("visits of all targets together", x.count(3), 20);
        CHECKS.due("the latest one of target 19", x.target(19, 9), 59);
        CHECKS.due("the clouds of night 60", x.reason(0, 99), 1);
        CHECKS.due("the night", x.night(), 60);
    }

    private static SkyPlan emptyOnNight(int night) {
        SkyPlan x = new SkyPlan();
        x.pass(night);
        return x;
    }

    private static void passOnTheLastNight() {
        SkyPlan x = Starts.full();
        CHECKS.badArgument(x, "pass(1)", () -> x.pass(1));
        CHECKS.due("the clouds of night 60", x.reason(0, 799), 1);
        CHECKS.due("the night", x.night(), 60);
        SkyPlan y = emptyOnNight(59);
        CHECKS.badArgument(y, "pass(2)", () -> y.pass(2));
        CHECKS.due("the night", y.night(), 59);
        CHECKS.due("pass(1)", y.pass(1), 60);
    }

    /** A call that is refused again and again changes nothing, whatever was told before. */
    private static void refusedInEachState() {
        SkyPlan x = Starts.midway();
        SkyPlan y = Starts.midway();
        for (int night = 0; night < 8; night++) {
            refusedAlone(x);
            CHECKS.due("digest", x.digest(), y.digest());
            CHECKS.due("observe", x.observe(), y.observe());
            refusedAlone(x);
            CHECKS.due("use", x.use(), y.use());
            CHECKS.due("addClouds", x.addClouds(10 * night, 300), y.addClouds(10 * night, 300));
        }
        CHECKS.due("aftermath", Aftermath.of(x).equals(Aftermath.of(y)), true);
    }

    private static void refusedAlone(SkyPlan x) {
        Edges.Call[] calls = {
            (y, none) -> y.setSite(80, -1), (y, none) -> y.setLength(59), (y, none) -> y.setMoon(1, 2, -3),
            (y, none) -> y.addClouds(0, 333), (y, none) -> y.sine(10001), (y, none) -> y.addTarget(1, 2, 3, 4, 0),
            (y, none) -> y.want(0, 1, 2, 0), (y, none) -> y.height(0, -1), (y, none) -> y.reason(0, -1),
            (y, none) -> y.window(0, 5), (y, none) -> y.count(4), (y, none) -> y.visit(0, 4), (y, none) -> y.pass(0),
        };
        for (Edges.Call call : calls) {
            String got = Edges.answerOf(x, 0, call);
            CHECKS.judge(got.startsWith("java.lang.I") && !got.contains("outside"), "a refused call answered " + got);
        }
    }
}
