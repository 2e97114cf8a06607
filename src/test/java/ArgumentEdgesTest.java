/**
 * For each argument of each call the last value that is let through and the first one that is
 * refused, on both sides. The other arguments of a refused call are fine and tell something new, so
 * that a call which takes over some of them before it throws is seen.
 */
public final class ArgumentEdgesTest {
    private static final Checks CHECKS = new Checks();
    private static final Edges EDGES = new Edges(CHECKS);
    private static final Edges.Start[] ANY = {SkyPlan::new, Starts::midway, Starts::full};
    private static final Edges.Start[] WITH_TARGETS = {Starts::midway, Starts::full};
    private static final Edges.Start[] WITH_ROOM = {SkyPlan::new, Starts::midway};

    public static void main(String[] args) {
        siteAndLength();
        moon();
        clouds();
        sine();
        addTarget();
        want();
        target();
        timesOfTargets();
        nearness();
        windowAndIsOpen();
        count();
        visit();
        pass();
        keptAtTheEdges();
        targetsKeptAtTheEdges();
        CHECKS.end();
    }

    private static void argument(Edges.Start[] starts, String name, int least, int greatest, Edges.Call call) {
        for (Edges.Start start : starts) {
            EDGES.range(name, Edges.BAD_ARGUMENT, least, greatest, start, call);
        }
    }

    private static void index(Edges.Start start, String name, int least, int greatest, Edges.Call call) {
        EDGES.range(name, Edges.BAD_INDEX, least, greatest, start, call);
    }

    /** The index of a target in each state: with no target, with one, with three and with twenty. */
    private static void targetIndex(String name, Edges.Call call) {
        EDGES.refusesAll(name, Edges.BAD_INDEX, SkyPlan::new, new int[] {-1, 0, 1, 19, 20}, call);
        index(ArgumentEdgesTest::single, name, 0, 0, call);
        index(Starts::midway, name, 0, 2, call);
        index(Starts::full, name, 0, 19, call);
    }

    private static SkyPlan single() {
        SkyPlan x = new SkyPlan();
        x.addTarget(200, 70, 2, 3, 25);
        return x;
    }

    private static void siteAndLength() {
        argument(ANY, "the latitude of setSite", -90, 90, (x, value) -> x.setSite(value, 77));
        argument(ANY, "the start of setSite", 0, 1439, (x, value) -> x.setSite(11, value));
        argument(ANY, "setLength", 60, 900, (x, value) -> x.setLength(value));
    }

    private static void moon() {
        argument(ANY, "the rise of setMoon", 0, 1439, (x, value) -> x.setMoon(value, 12, 13));
        argument(ANY, "the declination of setMoon", -90, 90, (x, value) -> x.setMoon(14, value, 13));
        argument(ANY, "the age of setMoon", 0, 29, (x, value) -> x.setMoon(14, 12, value));
    }

    private static void clouds() {
        int[] lengths = {60, 600, 900};
        for (int length : lengths) {
            Edges.Start start = () -> ofLength(length);
            EDGES.range("the first minute up to 40", Edges.BAD_ARGUMENT, 0, 40, start,
                    (x, value) -> x.addClouds(value, 40));
            EDGES.range("the first minute up to the last of " + length, Edges.BAD_ARGUMENT, 0, length - 1, start,
                    (x, value) -> x.addClouds(value, length - 1));
            EDGES.range("the last minute from 40 on", Edges.BAD_ARGUMENT, 40, length - 1, start,
                    (x, value) -> x.addClouds(40, value));
            EDGES.range("the last minute from 0 on", Edges.BAD_ARGUMENT, 0, length - 1, start,
                    (x, value) -> x.addClouds(0, value));
            EDGES.range("a single minute", Edges.BAD_ARGUMENT, 0, length - 1, start,
                    (x, value) -> x.addClouds(value, value));
        }
        EDGES.range("clouds for the 8th time", Edges.BAD_ARGUMENT, 0, 332, Starts::midway,
                (x, value) -> x.addClouds(value, value));
    }

    /** A night of this length that was longer and shorter before. */
    private static SkyPlan ofLength(int length) {
        SkyPlan x = single();
        x.setLength(900);
        x.setLength(60);
        x.setLength(length);
        return x;
    }

    private static void sine() {
        argument(ANY, "sine", -10000, 10000, (x, value) -> x.sine(value));
    }

    private static void addTarget() {
        argument(WITH_ROOM, "the rise of addTarget", 0, 1439, (x, value) -> x.addTarget(value, 60, 1, 8, 9));
        argument(WITH_ROOM, "the declination of addTarget", -90, 90, (x, value) -> x.addTarget(5, value, 1, 8, 9));
        argument(WITH_ROOM, "the filter of addTarget", 0, 3, (x, value) -> x.addTarget(5, 60, value, 8, 9));
        argument(WITH_ROOM, "the rank of addTarget", 1, 9, (x, value) -> x.addTarget(5, 60, 1, value, 9));
        argument(WITH_ROOM, "the minutes of addTarget", 5, 120, (x, value) -> x.addTarget(5, 60, 1, 8, value));
    }

    private static void want() {
        targetIndex("the target of want", (x, value) -> x.want(value, -300, 9, 7));
        argument(WITH_TARGETS, "the height of want", -1000, 1000, (x, value) -> x.want(0, value, 9, 7));
        argument(WITH_TARGETS, "the visits of want", 1, 10, (x, value) -> x.want(1, -300, value, 7));
        argument(WITH_TARGETS, "the nights of want", 1, 20, (x, value) -> x.want(2, -300, 9, value));
    }

    private static void target() {
        for (int what = 0; what < 10; what++) {
            int kind = what;
            targetIndex("the target of target, " + what, (x, value) -> x.target(value, kind));
        }
        index(Starts::midway, "the what of target", 0, 9, (x, value) -> x.target(2, value));
        index(Starts::full, "the what of target", 0, 9, (x, value) -> x.target(19, value));
    }

    private static void timesOfTargets() {
        targetIndex("the target of height", (x, value) -> x.height(value, 59));
        targetIndex("the target of reason", (x, value) -> x.reason(value, 59));
        int[] lengths = {60, 600, 900};
        for (int length : lengths) {
            Edges.Start[] start = {() -> ofLength(length)};
            argument(start, "the time of height in " + length, 0, length - 1, (x, value) -> x.height(0, value));
            argument(start, "the time of reason in " + length, 0, length - 1, (x, value) -> x.reason(0, value));
            argument(start, "the time of moonHeight in " + length, 0, length - 1, (x, value) -> x.moonHeight(value));
        }
        Edges.Start[] last = {Starts::full};
        argument(last, "the time of height on the last night", 0, 899, (x, value) -> x.height(19, value));
        argument(last, "the time of reason on the last night", 0, 899, (x, value) -> x.reason(19, value));
        argument(last, "the time of moonHeight on the last night", 0, 899, (x, value) -> x.moonHeight(value));
    }

    private static void nearness() {
        targetIndex("the first target of nearness", (x, value) -> x.nearness(value, 0));
        targetIndex("the second target of nearness", (x, value) -> x.nearness(0, value));
        targetIndex("both targets of nearness", (x, value) -> x.nearness(value, value));
        targetIndex("the target of moonNearness", (x, value) -> x.moonNearness(value));
    }

    private static void windowAndIsOpen() {
        for (int what = 0; what < 5; what++) {
            int kind = what;
            targetIndex("the target of window, " + what, (x, value) -> x.window(value, kind));
        }
        index(Starts::midway, "the what of window", 0, 4, (x, value) -> x.window(2, value));
        index(Starts::full, "the what of window", 0, 4, (x, value) -> x.window(19, value));
        targetIndex("the target of isOpen", (x, value) -> x.isOpen(value));
    }

    private static void count() {
        for (Edges.Start start : ANY) {
            index(start, "count", 0, 3, (x, value) -> x.count(value));
        }
    }

    private static void visit() {
        EDGES.refusesAll("visit without targets", Edges.BAD_INDEX, SkyPlan::new, new int[] {-1, 0, 1, 19, 20},
                (x, value) -> x.visit(value, 0));
        for (int what = 0; what < 4; what++) {
            int kind = what;
            index(ArgumentEdgesTest::single, "the index of visit, one in the plan", 0, 0,
                    (x, value) -> x.visit(value, kind));
            index(Starts::full, "the index of visit, 20 in the plan", 0, 19, (x, value) -> x.visit(value, kind));
        }
        index(ArgumentEdgesTest::single, "the what of visit", 0, 3, (x, value) -> x.visit(0, value));
        index(Starts::full, "the what of visit", 0, 3, (x, value) -> x.visit(19, value));
    }

    private static void pass() {
        for (int night = 0; night < 60; night++) {
            int before = night;
            Edges.Start[] start = {() -> onNight(before)};
            argument(start, "pass on night " + night, 1, 60 - night, (x, value) -> x.pass(value));
        }
        EDGES.refusesAll("pass on night 60", Edges.BAD_ARGUMENT, Starts::full,
                new int[] {0, 1, 2, 59, 60, 61, -1, -60, Integer.MIN_VALUE, Integer.MAX_VALUE},
                (x, value) -> x.pass(value));
    }

    private static SkyPlan onNight(int night) {
        SkyPlan x = single();
        x.want(0, 0, 10, 1);
        for (int before = 0; before < night; before++) {
            x.observe();
        }
        x.addClouds(10, 19);
        return x;
    }

    private static void dueDigest(SkyPlan x, int... numbers) {
        CHECKS.due("digest", x.digest(), Checks.sum(numbers));
    }

    /** What is let through at the edges is what the object has then. */
    private static void keptAtTheEdges() {
        SkyPlan x = new SkyPlan();
        CHECKS.due("setSite(-90, 0)", x.setSite(-90, 0), 50);
        CHECKS.due("setLength(60)", x.setLength(60), 600);
        CHECKS.due("setMoon(0, -90, 0)", x.setMoon(0, -90, 0), 0);
        dueDigest(x, 0, 60, -90, 0, 0, -90, 0, 0, 0);
        CHECKS.due("setSite(90, 1439)", x.setSite(90, 1439), -90);
        CHECKS.due("setLength(900)", x.setLength(900), 60);
        CHECKS.due("setMoon(1439, 90, 29)", x.setMoon(1439, 90, 29), 7);
        dueDigest(x, 0, 900, 90, 1439, 1439, 90, 29, 0, 0);
        CHECKS.due("setSite(50, 0)", x.setSite(50, 0), 90);
        CHECKS.due("setLength(600)", x.setLength(600), 900);
        CHECKS.due("setMoon(0, 0, 0)", x.setMoon(0, 0, 0), 0);
        CHECKS.due("digest", x.digest(), new SkyPlan().digest());
    }

    private static void dueTarget(SkyPlan x, int target, int... due) {
        CHECKS.dueEach("target " + target, what -> x.target(target, what), due);
    }

    private static void targetsKeptAtTheEdges() {
        SkyPlan x = Starts.pole();
        CHECKS.due("addTarget", x.addTarget(0, -90, 0, 1, 5), 0);
        CHECKS.due("addTarget", x.addTarget(1439, 90, 3, 9, 120), 1);
        dueTarget(x, 0, 0, -90, 0, 1, 300, 5, 1, 1, 0, -1);
        dueTarget(x, 1, 1439, 90, 3, 9, 300, 120, 1, 1, 0, -1);
        CHECKS.due("want", x.want(0, -1000, 10, 20), 1);
        CHECKS.due("want", x.want(1, 1000, 10, 20), 1);
        dueTarget(x, 0, 0, -90, 0, 1, -1000, 5, 10, 20, 0, -1);
        dueTarget(x, 1, 1439, 90, 3, 9, 1000, 120, 10, 20, 0, -1);
        CHECKS.due("want", x.want(0, 1000, 1, 1), 10);
        CHECKS.due("want", x.want(1, -1000, 1, 1), 10);
        dueTarget(x, 0, 0, -90, 0, 1, 1000, 5, 1, 1, 0, -1);
        dueTarget(x, 1, 1439, 90, 3, 9, -1000, 120, 1, 1, 0, -1);
    }
}
