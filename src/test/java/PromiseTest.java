/**
 * The promises one by one. At the pole (latitude 90) each height is the sine of the declination at
 * every minute, so that what is due there can be worked out by hand.
 */
public final class PromiseTest {
    private static final Checks CHECKS = new Checks();
    private static final int MIN = Integer.MIN_VALUE;
    private static final int MAX = Integer.MAX_VALUE;

    public static void main(String[] args) {
        newObject();
        site();
        length();
        moon();
        clouds();
        cloudsAndLength();
        sine();
        addTarget();
        want();
        target();
        height();
        nearness();
        moonNearness();
        moonHeight();
        reason();
        reasonAtTheMoonsEdge();
        window();
        windowOfAVisit();
        isOpen();
        count();
        planAtThePole();
        planAmongClouds();
        planAndItsTies();
        planAndTurning();
        planAndTheTurningSky();
        planAfterEachChange();
        visitEdges();
        use();
        observe();
        pass();
        nightAndLight();
        digest();
        CHECKS.end();
    }

    private static void due(String call, long got, long want) {
        CHECKS.due(call, got, want);
    }

    private static void dueVisit(SkyPlan x, int index, int target, int begin, int wait, int merit) {
        CHECKS.dueEach("visit " + index, what -> x.visit(index, what), target, begin, wait, merit);
    }

    private static void dueWindow(SkyPlan x, int target, int first, int last, int seen, int highest, int begin) {
        CHECKS.dueEach("window of " + target, what -> x.window(target, what), first, last, seen, highest, begin);
    }

    private static void newObject() {
        SkyPlan x = new SkyPlan();
        due("digest", x.digest(), Checks.sum(0, 600, 50, 0, 0, 0, 0, 0, 0));
        due("count(0)", x.count(0), 0);
        due("visits", x.visits(), 0);
        due("night", x.night(), 0);
        due("light", x.light(), 0);
        due("moonHeight", x.moonHeight(0), 641);
        due("setLength", x.setLength(600), 600);
        due("setSite", x.setSite(50, 0), 50);
        due("addClouds", x.addClouds(0, 0), 599);
        CHECKS.badIndex(x, "target(0, 0)", () -> x.target(0, 0));
    }

    private static void site() {
        SkyPlan x = new SkyPlan();
        x.addTarget(0, 30, 0, 1, 5);
        due("setSite", x.setSite(-90, 1439), 50);
        due("height at the south pole", x.height(0, 0), -500);
        due("setSite", x.setSite(90, 0), -90);
        due("height at the pole", x.height(0, 599), 500);
        due("setSite", x.setSite(0, 60), 90);
        due("height at the equator", x.height(0, 0), 864 * cosine(15) / 1000);
        CHECKS.badArgument(x, "setSite(-91, 0)", () -> x.setSite(-91, 0));
        CHECKS.badArgument(x, "setSite(91, 0)", () -> x.setSite(91, 0));
        CHECKS.badArgument(x, "setSite(0, -1)", () -> x.setSite(0, -1));
        CHECKS.badArgument(x, "setSite(0, 1440)", () -> x.setSite(0, 1440));
        CHECKS.badArgument(x, "setSite(MIN, MAX)", () -> x.setSite(MIN, MAX));
        due("setSite", x.setSite(10, 10), 0);
        due("digest", new SkyPlan().setSite(10, 10), 50);
    }

    /** The cosine of small angles, from the answers of sine. */
    private static int cosine(int degrees) {
        return new SkyPlan().sine(degrees + 90);
    }

    private static void length() {
        SkyPlan x = new SkyPlan();
        x.addTarget(0, 30, 0, 1, 5);
        due("setLength", x.setLength(60), 600);
        due("reason at the last minute", x.reason(0, 59), 0);
        CHECKS.badArgument(x, "height(0, 60)", () -> x.height(0, 60));
        due("setLength", x.setLength(900), 60);
        due("height at the last minute", x.height(0, 899), (764 * 500 + 641 * 864 / 1000 * cosine(224)) / 1000);
        CHECKS.badArgument(x, "height(0, 900)", () -> x.height(0, 900));
        CHECKS.badArgument(x, "setLength(59)", () -> x.setLength(59));
        CHECKS.badArgument(x, "setLength(901)", () -> x.setLength(901));
        CHECKS.badArgument(x, "setLength(MIN)", () -> x.setLength(MIN));
        CHECKS.badArgument(x, "setLength(MAX)", () -> x.setLength(MAX));
        x.pass(1);
        due("setLength on the next night", x.setLength(100), 900);
    }

    private static void moon() {
        SkyPlan x = Starts.pole();
        due("setMoon", x.setMoon(0, 30, 0), 0);
        due("setMoon", x.setMoon(1439, 90, 1), 7);
        due("setMoon", x.setMoon(0, -90, 14), 94);
        due("moonHeight", x.moonHeight(0), -1000);
        due("setMoon", x.setMoon(7, 0, 15), 100);
        due("setMoon", x.setMoon(8, 0, 16), 94);
        due("setMoon", x.setMoon(20, 30, 29), 7);
        due("moonHeight", x.moonHeight(0), 500);
        due("digest", x.digest(), Checks.sum(0, 60, 90, 0, 20, 30, 29, 0, 0));
        CHECKS.badArgument(x, "setMoon(-1, 0, 0)", () -> x.setMoon(-1, 0, 0));
        CHECKS.badArgument(x, "setMoon(1440, 0, 0)", () -> x.setMoon(1440, 0, 0));
        CHECKS.badArgument(x, "setMoon(0, -91, 0)", () -> x.setMoon(0, -91, 0));
        CHECKS.badArgument(x, "setMoon(0, 91, 0)", () -> x.setMoon(0, 91, 0));
        CHECKS.badArgument(x, "setMoon(0, 0, -1)", () -> x.setMoon(0, 0, -1));
        CHECKS.badArgument(x, "setMoon(0, 0, 30)", () -> x.setMoon(0, 0, 30));
        CHECKS.badArgument(x, "setMoon(MAX, MIN, MAX)", () -> x.setMoon(MAX, MIN, MAX));
    }

    private static void clouds() {
        SkyPlan x = Starts.pole();
        x.addTarget(0, 30, 0, 1, 5);
        CHECKS.badArgument(x, "addClouds(-1, 5)", () -> x.addClouds(-1, 5));
        CHECKS.badArgument(x, "addClouds(6, 5)", () -> x.addClouds(6, 5));
        CHECKS.badArgument(x, "addClouds(0, 60)", () -> x.addClouds(0, 60));
        CHECKS.badArgument(x, "addClouds(MIN, MAX)", () -> x.addClouds(MIN, MAX));
        CHECKS.badArgument(x, "addClouds(60, 60)", () -> x.addClouds(60, 60));
        due("addClouds", x.addClouds(0, 0), 59);
        due("addClouds", x.addClouds(59, 59), 58);
        due("addClouds, told before", x.addClouds(59, 59), 58);
        due("addClouds", x.addClouds(10, 19), 48);
        due("addClouds, some told before", x.addClouds(15, 24), 43);
        due("addClouds", x.addClouds(10, 12), 43);
        dueWindow(x, 0, 1, 58, 43, 0, 1);
        due("addClouds", x.addClouds(0, 59), 0);
        due("addClouds for the 8th time", x.addClouds(5, 5), 0);
        CHECKS.badState(x, "addClouds for the 9th time", () -> x.addClouds(5, 5));
        CHECKS.badArgument(x, "addClouds for the 9th time, wrong", () -> x.addClouds(5, 4));
        x.observe();
        due("reason on the next night", x.reason(0, 5), 0);
        for (int time = 0; time < 8; time++) {
            due("addClouds on the next night", x.addClouds(time, time), 59 - time);
        }
        x.pass(1);
        due("reason behind a night that passed", x.reason(0, 5), 0);
        due("addClouds behind a night that passed", x.addClouds(0, 29), 30);
    }

    private static void cloudsAndLength() {
        SkyPlan x = Starts.pole();
        x.setLength(100);
        x.addTarget(0, 30, 0, 1, 5);
        due("addClouds", x.addClouds(50, 99), 50);
        x.setLength(60);
        due("addClouds in a shorter night", x.addClouds(0, 0), 49);
        x.setLength(200);
        due("addClouds in a longer night", x.addClouds(0, 0), 149);
        due("reason", x.reason(0, 99), 1);
        due("reason", x.reason(0, 100), 0);
    }

    private static void sine() {
        SkyPlan x = new SkyPlan();
        int[][] due = {{0, 0}, {1, 17}, {2, 35}, {10, 175}, {30, 500}, {45, 705}, {60, 864}, {63, 889}, {89, 999}, {90, 1000},
            {91, 999}, {135, 705}, {179, 17}, {180, 0}, {181, -17}, {225, -705}, {270, -1000}, {359, -17}, {360, 0},
            {361, 17}, {720, 0}, {-1, -17}, {-30, -500}, {-90, -1000}, {-180, 0}, {-270, 1000}, {-360, 0},
            {10000, -984}, {-10000, 984}};
        for (int[] row : due) {
            due("sine(" + row[0] + ")", x.sine(row[0]), row[1]);
        }
        CHECKS.badArgument(x, "sine(-10001)", () -> x.sine(-10001));
        CHECKS.badArgument(x, "sine(10001)", () -> x.sine(10001));
        CHECKS.badArgument(x, "sine(MIN)", () -> x.sine(MIN));
        CHECKS.badArgument(x, "sine(MAX)", () -> x.sine(MAX));
    }

    private static void wrongTargets(SkyPlan x) {
        CHECKS.badArgument(x, "addTarget(-1, ..)", () -> x.addTarget(-1, 0, 0, 1, 5));
        CHECKS.badArgument(x, "addTarget(1440, ..)", () -> x.addTarget(1440, 0, 0, 1, 5));
        CHECKS.badArgument(x, "addTarget(0, -91, ..)", () -> x.addTarget(0, -91, 0, 1, 5));
        CHECKS.badArgument(x, "addTarget(0, 91, ..)", () -> x.addTarget(0, 91, 0, 1, 5));
        CHECKS.badArgument(x, "addTarget(0, 0, -1, ..)", () -> x.addTarget(0, 0, -1, 1, 5));
        CHECKS.badArgument(x, "addTarget(0, 0, 4, ..)", () -> x.addTarget(0, 0, 4, 1, 5));
        CHECKS.badArgument(x, "addTarget(0, 0, 0, 0, 5)", () -> x.addTarget(0, 0, 0, 0, 5));
        CHECKS.badArgument(x, "addTarget(0, 0, 0, 10, 5)", () -> x.addTarget(0, 0, 0, 10, 5));
        CHECKS.badArgument(x, "addTarget(0, 0, 0, 1, 4)", () -> x.addTarget(0, 0, 0, 1, 4));
        CHECKS.badArgument(x, "addTarget(0, 0, 0, 1, 121)", () -> x.addTarget(0, 0, 0, 1, 121));
        CHECKS.badArgument(x, "addTarget(MIN, ..)", () -> x.addTarget(MIN, MAX, MIN, MAX, MIN));
    }

    private static void addTarget() {
        SkyPlan x = Starts.pole();
        wrongTargets(x);
        due("addTarget", x.addTarget(0, -90, 0, 1, 5), 0);
        due("addTarget", x.addTarget(1439, 90, 3, 9, 120), 1);
        for (int number = 2; number < 20; number++) {
            due("addTarget", x.addTarget(number, number, 0, 1, 5), number);
        }
        due("count(0)", x.count(0), 20);
        CHECKS.badState(x, "the 21st target", () -> x.addTarget(0, 0, 0, 1, 5));
        wrongTargets(x);
        due("target(19, 0)", x.target(19, 0), 19);
        CHECKS.badIndex(x, "target(20, 0)", () -> x.target(20, 0));
    }

    private static void want() {
        SkyPlan x = Starts.pole();
        CHECKS.badIndex(x, "want(0, ..)", () -> x.want(0, 0, 1, 1));
        x.addTarget(0, 30, 0, 1, 5);
        due("want", x.want(0, -1000, 10, 20), 1);
        due("want", x.want(0, 1000, 1, 1), 10);
        CHECKS.badIndex(x, "want(-1, ..)", () -> x.want(-1, 0, 1, 1));
        CHECKS.badIndex(x, "want(1, ..)", () -> x.want(1, 0, 1, 1));
        CHECKS.badIndex(x, "want, all wrong", () -> x.want(MAX, MAX, MIN, MAX));
        CHECKS.badIndex(x, "want, all wrong", () -> x.want(MIN, 1001, 0, 0));
        CHECKS.badArgument(x, "want(0, -1001, ..)", () -> x.want(0, -1001, 1, 1));
        CHECKS.badArgument(x, "want(0, 1001, ..)", () -> x.want(0, 1001, 1, 1));
        CHECKS.badArgument(x, "want(0, 0, 0, 1)", () -> x.want(0, 0, 0, 1));
        CHECKS.badArgument(x, "want(0, 0, 11, 1)", () -> x.want(0, 0, 11, 1));
        CHECKS.badArgument(x, "want(0, 0, 1, 0)", () -> x.want(0, 0, 1, 0));
        CHECKS.badArgument(x, "want(0, 0, 1, 21)", () -> x.want(0, 0, 1, 21));
        due("visits of a height that it never has", x.visits(), 0);
        x.want(0, 500, 1, 1);
        due("visits at its very height", x.visits(), 1);
        x.want(0, 501, 1, 1);
        due("window(0, 2)", x.window(0, 2), 0);
        due("visits", x.visits(), 0);
    }

    private static void dueTarget(SkyPlan x, int target, int... want) {
        CHECKS.dueEach("target " + target, what -> x.target(target, what), want);
    }

    private static void target() {
        SkyPlan x = Starts.pole();
        x.addTarget(1, 32, 2, 3, 6);
        x.addTarget(1200, -20, 3, 9, 120);
        dueTarget(x, 0, 1, 32, 2, 3, 300, 6, 1, 1, 0, -1);
        dueTarget(x, 1, 1200, -20, 3, 9, 300, 120, 1, 1, 0, -1);
        x.want(0, -7, 4, 5);
        dueTarget(x, 0, 1, 32, 2, 3, -7, 6, 4, 5, 0, -1);
        x.observe();
        x.pass(4);
        x.observe();
        dueTarget(x, 0, 1, 32, 2, 3, -7, 6, 4, 5, 2, 5);
        dueTarget(x, 1, 1200, -20, 3, 9, 300, 120, 1, 1, 0, -1);
        CHECKS.badIndex(x, "target(-1, 0)", () -> x.target(-1, 0));
        CHECKS.badIndex(x, "target(2, 0)", () -> x.target(2, 0));
        CHECKS.badIndex(x, "target(0, -1)", () -> x.target(0, -1));
        CHECKS.badIndex(x, "target(0, 10)", () -> x.target(0, 10));
        CHECKS.badIndex(x, "target(MAX, MIN)", () -> x.target(MAX, MIN));
    }

    private static void height() {
        SkyPlan x = new SkyPlan();
        x.addTarget(600, 40, 0, 5, 30);
        x.addTarget(0, -90, 0, 5, 30);
        due("height(0, 0)", x.height(0, 0), 67);
        due("height(1, 0)", x.height(1, 0), -764);
        due("angle 0 from the minute 600 - 3 on", x.height(0, 599), (764 * 641 + 641 * 764 / 1000 * 999) / 1000);
        x.setSite(0, 1439);
        due("sky clock behind 1439", x.height(0, 1), (764 * cosine(210)) / 1000);
        x.pass(2);
        due("8 minutes of the sky clock later", x.height(0, 1), (764 * cosine(212)) / 1000);
        due("height below 0 is cut towards 0", x.height(0, 0), (764 * cosine(211)) / 1000);
        CHECKS.badIndex(x, "height(2, 0)", () -> x.height(2, 0));
        CHECKS.badIndex(x, "height(-1, 600)", () -> x.height(-1, 600));
        CHECKS.badArgument(x, "height(0, -1)", () -> x.height(0, -1));
        CHECKS.badArgument(x, "height(0, 600)", () -> x.height(0, 600));
        CHECKS.badArgument(x, "height(0, MAX)", () -> x.height(0, MAX));
        CHECKS.badArgument(x, "height(0, MIN)", () -> x.height(0, MIN));
    }

    private static void nearness() {
        SkyPlan x = new SkyPlan();
        x.addTarget(0, 0, 0, 1, 5);
        x.addTarget(3, 0, 0, 1, 5);
        x.addTarget(1439, 0, 0, 1, 5);
        x.addTarget(720, 0, 0, 1, 5);
        x.addTarget(900, -30, 0, 1, 5);
        x.addTarget(7, 90, 0, 1, 5);
        due("difference 3 is 0 degrees", x.nearness(0, 1), 1000);
        due("difference 1439 is 359 degrees", x.nearness(0, 2), 999);
        due("difference 1439 the other way round", x.nearness(2, 0), 999);
        due("opposite", x.nearness(0, 3), -1000);
        due("itself", x.nearness(4, 4), 996);
        due("from the pole of the sky", x.nearness(5, 4), -500);
        due("to the pole of the sky", x.nearness(4, 5), -500);
        due("225 degrees", x.nearness(0, 4), 864 * cosine(225) / 1000);
        CHECKS.badIndex(x, "nearness(-1, 0)", () -> x.nearness(-1, 0));
        CHECKS.badIndex(x, "nearness(0, -1)", () -> x.nearness(0, -1));
        CHECKS.badIndex(x, "nearness(6, 0)", () -> x.nearness(6, 0));
        CHECKS.badIndex(x, "nearness(0, 6)", () -> x.nearness(0, 6));
        CHECKS.badIndex(x, "nearness(MIN, MAX)", () -> x.nearness(MIN, MAX));
    }

    private static void moonNearness() {
        SkyPlan x = new SkyPlan();
        x.addTarget(100, 0, 0, 1, 5);
        due("moonNearness", x.moonNearness(0), cosine(25));
        x.setMoon(1439, 0, 20);
        due("moonNearness", x.moonNearness(0), cosine(334));
        x.pass(1);
        due("the moon has gone on to 48", x.moonNearness(0), cosine(13));
        x.observe();
        due("the moon has gone on to 97", x.moonNearness(0), 1000);
        CHECKS.badIndex(x, "moonNearness(-1)", () -> x.moonNearness(-1));
        CHECKS.badIndex(x, "moonNearness(1)", () -> x.moonNearness(1));
        CHECKS.badIndex(x, "moonNearness(MAX)", () -> x.moonNearness(MAX));
    }

    private static void moonHeight() {
        SkyPlan x = new SkyPlan();
        x.setSite(0, 0);
        x.setMoon(40, 0, 3);
        due("moonHeight(0)", x.moonHeight(0), cosine(350));
        due("moonHeight(40)", x.moonHeight(40), 1000);
        due("moonHeight(599)", x.moonHeight(599), cosine(139));
        x.pass(1);
        due("on the next night, 4 further and 49 behind", x.moonHeight(40), cosine(348));
        CHECKS.badArgument(x, "moonHeight(-1)", () -> x.moonHeight(-1));
        CHECKS.badArgument(x, "moonHeight(600)", () -> x.moonHeight(600));
        CHECKS.badArgument(x, "moonHeight(MIN)", () -> x.moonHeight(MIN));
        CHECKS.badArgument(x, "moonHeight(MAX)", () -> x.moonHeight(MAX));
    }

    private static void reason() {
        SkyPlan x = Starts.pole();
        x.addTarget(0, 30, 0, 1, 5);
        x.addTarget(0, 10, 0, 1, 5);
        x.setMoon(0, 30, 15);
        due("the moon", x.reason(0, 0), 3);
        due("its height before the moon", x.reason(1, 0), 2);
        x.addClouds(20, 30);
        due("before the clouds", x.reason(1, 19), 2);
        due("clouds before its height", x.reason(1, 20), 1);
        due("clouds before the moon", x.reason(0, 30), 1);
        due("behind the clouds", x.reason(0, 31), 3);
        x.setMoon(0, -30, 15);
        due("the moon is not up", x.reason(0, 31), 0);
        x.setMoon(0, 0, 15);
        due("the moon's height is 0", x.reason(0, 31), 0);
        x.setMoon(0, 1, 15);
        due("the moon's height is 17", x.reason(0, 31), 3);
        CHECKS.badIndex(x, "reason(2, 0)", () -> x.reason(2, 0));
        CHECKS.badIndex(x, "reason(-1, -1)", () -> x.reason(-1, -1));
        CHECKS.badArgument(x, "reason(0, -1)", () -> x.reason(0, -1));
        CHECKS.badArgument(x, "reason(0, 60)", () -> x.reason(0, 60));
        CHECKS.badArgument(x, "reason(0, MAX)", () -> x.reason(0, MAX));
    }

    private static void reasonAtTheMoonsEdge() {
        SkyPlan x = Starts.pole();
        x.addTarget(88, 23, 0, 1, 5);
        x.addTarget(92, 26, 0, 1, 5);
        due("light", x.setMoon(0, 30, 2), 14);
        due("moonNearness", x.moonNearness(0), 930);
        due("1000 less 5 times the light", x.reason(0, 0), 0);
        due("moonNearness", x.moonNearness(1), 931);
        due("one nearer", x.reason(1, 0), 3);
        x.setMoon(0, 30, 0);
        due("no light: nearness 1000 would do", x.reason(1, 0), 0);
    }

    private static void window() {
        SkyPlan x = new SkyPlan();
        x.addTarget(600, 40, 0, 5, 30);
        x.addTarget(900, -30, 2, 7, 20);
        dueWindow(x, 0, 152, 599, 448, 592, 152);
        dueWindow(x, 1, -1, -1, 0, x.window(1, 3), -1);
        x.addClouds(0, 599);
        dueWindow(x, 0, -1, -1, 0, 592, -1);
        x.pass(1);
        dueWindow(x, 0, 148, 599, 452, 588, 148);
        SkyPlan y = Starts.pole();
        y.addTarget(0, 30, 0, 1, 5);
        dueWindow(y, 0, 0, 59, 60, 0, 0);
        CHECKS.badIndex(x, "window(-1, 0)", () -> x.window(-1, 0));
        CHECKS.badIndex(x, "window(2, 0)", () -> x.window(2, 0));
        CHECKS.badIndex(x, "window(0, -1)", () -> x.window(0, -1));
        CHECKS.badIndex(x, "window(0, 5)", () -> x.window(0, 5));
        CHECKS.badIndex(x, "window(MIN, MAX)", () -> x.window(MIN, MAX));
    }

    private static void windowOfAVisit() {
        SkyPlan x = Starts.pole();
        x.addTarget(0, 30, 0, 1, 10);
        x.addClouds(9, 9);
        x.addClouds(20, 29);
        dueWindow(x, 0, 0, 59, 49, 0, 10);
        x.addClouds(10, 10);
        dueWindow(x, 0, 0, 59, 48, 0, 30);
        x.addClouds(39, 45);
        dueWindow(x, 0, 0, 59, 41, 0, 46);
        x.addClouds(49, 49);
        dueWindow(x, 0, 0, 59, 40, 0, 50);
        x.addClouds(50, 50);
        dueWindow(x, 0, 0, 59, 39, 0, -1);
        x.addClouds(59, 59);
        dueWindow(x, 0, 0, 58, 38, 0, -1);
        SkyPlan y = Starts.pole();
        y.addTarget(0, 30, 0, 1, 60);
        y.addTarget(0, 30, 0, 1, 61);
        due("a visit as long as the night", y.window(0, 4), 0);
        due("a visit longer than the night", y.window(1, 4), -1);
    }

    private static void isOpen() {
        SkyPlan x = Starts.pole();
        x.addTarget(0, 30, 0, 1, 5);
        CHECKS.due("a new one", x.isOpen(0), true);
        x.observe();
        CHECKS.due("it has had all", x.isOpen(0), false);
        x.want(0, 300, 2, 3);
        CHECKS.due("1 night ago", x.isOpen(0), false);
        x.pass(1);
        CHECKS.due("2 nights ago", x.isOpen(0), false);
        x.pass(1);
        CHECKS.due("3 nights ago", x.isOpen(0), true);
        x.pass(1);
        CHECKS.due("4 nights ago", x.isOpen(0), true);
        x.want(0, 300, 1, 1);
        CHECKS.due("it wants less now", x.isOpen(0), false);
        x.want(0, 1000, 2, 4);
        CHECKS.due("open, though it can't be seen", x.isOpen(0), true);
        CHECKS.badIndex(x, "isOpen(-1)", () -> x.isOpen(-1) ? 1 : 0);
        CHECKS.badIndex(x, "isOpen(1)", () -> x.isOpen(1) ? 1 : 0);
        CHECKS.badIndex(x, "isOpen(MAX)", () -> x.isOpen(MAX) ? 1 : 0);
    }

    private static void dueCounts(SkyPlan x, int... want) {
        CHECKS.dueEach("count", x::count, want);
    }

    private static void count() {
        SkyPlan x = Starts.pole();
        dueCounts(x, 0, 0, 0, 0);
        x.addTarget(0, 30, 0, 1, 5);
        x.addTarget(0, 40, 0, 1, 5);
        x.addTarget(0, -40, 0, 1, 5);
        x.want(0, 300, 2, 1);
        dueCounts(x, 3, 3, 0, 0);
        x.observe();
        dueCounts(x, 3, 2, 1, 2);
        x.observe();
        dueCounts(x, 3, 1, 2, 3);
        x.want(0, 300, 1, 1);
        dueCounts(x, 3, 1, 2, 3);
        x.want(0, 300, 5, 20);
        dueCounts(x, 3, 1, 1, 3);
        CHECKS.badIndex(x, "count(-1)", () -> x.count(-1));
        CHECKS.badIndex(x, "count(4)", () -> x.count(4));
        CHECKS.badIndex(x, "count(MIN)", () -> x.count(MIN));
    }

    private static void planAtThePole() {
        SkyPlan x = Starts.pole();
        x.addTarget(0, 30, 0, 1, 5);
        x.addTarget(0, 90, 1, 1, 10);
        x.addTarget(0, 90, 0, 1, 10);
        x.addTarget(0, 40, 0, 2, 20);
        due("visits", x.visits(), 4);
        dueVisit(x, 0, 3, 2, 2, 200 + 64 - 2);
        dueVisit(x, 1, 2, 24, 2, 100 + 100 - 2);
        dueVisit(x, 2, 1, 38, 4, 100 + 100 - 4);
        dueVisit(x, 3, 0, 54, 6, 100 + 50 - 6);
        x.want(2, 1000, 1, 1);
        due("visits at the greatest height", x.visits(), 4);
        x.setSite(90, 1000);
        due("visits", x.visits(), 4);
        x.setSite(-90, 0);
        due("visits on the other side", x.visits(), 0);
    }

    private static void planAmongClouds() {
        SkyPlan x = Starts.pole();
        x.addTarget(0, 30, 3, 1, 5);
        dueVisit(x, 0, 0, 5, 5, 100 + 50 - 5);
        x.addClouds(0, 6);
        dueVisit(x, 0, 0, 7, 5, 145);
        x.addClouds(11, 54);
        dueVisit(x, 0, 0, 55, 5, 145);
        x.addClouds(55, 55);
        due("visits: 4 minutes are too few", x.visits(), 0);
        SkyPlan y = Starts.pole();
        y.addTarget(0, -30, 0, 1, 55);
        y.want(0, -1000, 1, 1);
        dueVisit(y, 0, 0, 2, 2, 100 - 50 - 2);
        y.addClouds(0, 4);
        dueVisit(y, 0, 0, 5, 2, 48);
        y.addClouds(5, 5);
        due("visits: 54 minutes are too few", y.visits(), 0);
    }

    private static void planAndItsTies() {
        SkyPlan x = Starts.pole();
        x.addTarget(0, 30, 0, 4, 5);
        x.addTarget(90, 30, 0, 4, 5);
        x.addTarget(0, -20, 0, 4, 5);
        x.want(2, -1000, 1, 1);
        due("visits", x.visits(), 3);
        dueVisit(x, 0, 0, 2, 2, 448);
        dueVisit(x, 1, 1, 8, 1, 449);
        dueVisit(x, 2, 2, 15, 2, 400 - 34 - 2);
        SkyPlan y = Starts.pole();
        y.addTarget(0, -1, 0, 1, 5);
        y.want(0, -20, 1, 1);
        y.addTarget(0, 0, 0, 1, 5);
        y.want(1, 0, 1, 1);
        dueVisit(y, 0, 1, 2, 2, 100 - 2);
        // a height of -17 counts -1
        dueVisit(y, 1, 0, 8, 1, 100 - 1 - 1);
    }

    private static void dueTurning(int rise, int declination, int filter, int want) {
        SkyPlan x = Starts.pole();
        x.addTarget(0, 0, 2, 9, 5);
        x.want(0, 0, 1, 1);
        x.addTarget(rise, declination, filter, 1, 5);
        x.want(1, -1000, 1, 1);
        dueVisit(x, 0, 0, 5, 5, 900 - 5);
        due("visit(1, 2) at nearness " + x.nearness(0, 1), x.visit(1, 2), want);
        due("visit(1, 1)", x.visit(1, 1), 10 + want);
    }

    /** From a nearness of 1000 to one of -1000, with the edges at 750. */
    private static void planAndTurning() {
        dueTurning(0, 0, 2, 1);
        dueTurning(0, 0, 0, 4);
        dueTurning(0, 0, 3, 4);
        dueTurning(40, 40, 2, 1);
        dueTurning(16, 41, 2, 2);
        dueTurning(44, 40, 2, 2);
        dueTurning(240, 0, 2, 3);
        dueTurning(360, 0, 2, 5);
        dueTurning(720, 0, 2, 9);
        dueTurning(720, 0, 1, 12);
    }

    /** The height counts that the target has when the telescope is ready for it. */
    private static void planAndTheTurningSky() {
        SkyPlan x = new SkyPlan();
        x.setSite(0, 0);
        x.addTarget(1202, 0, 0, 1, 5);
        due("height(0, 1)", x.height(0, 1), 514);
        due("height(0, 2)", x.height(0, 2), 500);
        dueVisit(x, 0, 0, 2, 2, 100 + 50 - 2);
        SkyPlan y = new SkyPlan();
        y.setSite(0, 0);
        y.addTarget(1205, 0, 1, 1, 5);
        due("height(0, 5)", y.height(0, 5), 500);
        dueVisit(y, 0, 0, 5, 5, 100 + 50 - 5);
        SkyPlan z = new SkyPlan();
        z.setSite(0, 0);
        z.addTarget(400, 0, 0, 1, 5);
        due("window(0, 0)", z.window(0, 0), 112);
        dueVisit(z, 0, 0, 112, 2, 100 + 31 - 2);
    }

    /** A plan that was told before is made anew when something changes. */
    private static void planAfterEachChange() {
        SkyPlan x = Starts.pole();
        x.addTarget(0, 30, 0, 1, 5);
        due("visits", x.visits(), 1);
        x.addTarget(0, 30, 0, 1, 50);
        due("visits behind addTarget", x.visits(), 2);
        x.setLength(63);
        due("window behind setLength", x.window(0, 1), 62);
        x.setLength(60);
        due("visits behind setLength", x.visits(), 2);
        x.setMoon(0, 30, 15);
        due("visits behind setMoon", x.visits(), 0);
        due("window behind setMoon", x.window(0, 2), 0);
        x.setMoon(0, 30, 0);
        due("visits behind setMoon", x.visits(), 2);
        x.setSite(-90, 0);
        due("visits behind setSite", x.visits(), 0);
        due("window behind setSite", x.window(0, 2), 0);
        x.setSite(90, 0);
        due("visits behind setSite", x.visits(), 2);
        x.want(0, 501, 1, 1);
        due("visits behind want", x.visits(), 1);
        due("window behind want", x.window(0, 2), 0);
        x.addClouds(50, 50);
        due("visits behind addClouds", x.visits(), 0);
        due("window behind addClouds", x.window(1, 2), 59);
        x.setMoon(0, -30, 0);
        due("visits among the clouds", x.visits(), 0);
        x.pass(1);
        due("visits behind pass", x.visits(), 1);
        due("window behind pass", x.window(1, 2), 60);
        x.observe();
        due("visits behind observe", x.visits(), 0);
    }

    private static void visitEdges() {
        SkyPlan x = Starts.pole();
        CHECKS.badIndex(x, "visit(0, 0)", () -> x.visit(0, 0));
        for (int number = 0; number < 20; number++) {
            x.addTarget(0, 90, 0, 1, 5);
        }
        due("visits", x.visits(), 9);
        dueVisit(x, 8, 8, 50, 1, 199);
        CHECKS.badIndex(x, "visit(9, 0)", () -> x.visit(9, 0));
        CHECKS.badIndex(x, "visit(-1, 0)", () -> x.visit(-1, 0));
        CHECKS.badIndex(x, "visit(0, -1)", () -> x.visit(0, -1));
        CHECKS.badIndex(x, "visit(0, 4)", () -> x.visit(0, 4));
        CHECKS.badIndex(x, "visit(MAX, MIN)", () -> x.visit(MAX, MIN));
        x.setLength(900);
        due("all visits there can be", x.visits(), 20);
        CHECKS.badIndex(x, "visit(20, 0)", () -> x.visit(20, 0));
        dueVisit(x, 19, 19, 116, 1, 199);
    }

    private static void use() {
        SkyPlan x = Starts.pole();
        CHECKS.due("use", x.use(), 0.0);
        x.addTarget(0, 30, 0, 1, 5);
        x.addTarget(0, 30, 0, 1, 16);
        CHECKS.due("use", x.use(), 0.35);
        x.setLength(63);
        CHECKS.due("use", x.use(), 21.0 / 63);
        x.observe();
        CHECKS.due("use on the next night", x.use(), 0.0);
    }

    private static void observe() {
        SkyPlan x = Starts.pole();
        due("observe without targets", x.observe(), 0);
        due("night", x.night(), 1);
        x.addTarget(0, 30, 0, 1, 5);
        x.addTarget(0, -30, 0, 1, 5);
        x.addTarget(0, 40, 0, 1, 5);
        x.want(0, 300, 10, 2);
        x.addClouds(0, 20);
        due("observe", x.observe(), 2);
        due("night", x.night(), 2);
        dueTarget(x, 0, 0, 30, 0, 1, 300, 5, 10, 2, 1, 1);
        dueTarget(x, 1, 0, -30, 0, 1, 300, 5, 1, 1, 0, -1);
        dueTarget(x, 2, 0, 40, 0, 1, 300, 5, 1, 1, 1, 1);
        due("no clouds", x.window(0, 0), 0);
        due("the moon", x.digest(), digestOf(x, 98, 0, 2));
        due("observe: the first is not open", x.observe(), 0);
        due("observe", x.observe(), 1);
        due("target(0, 9)", x.target(0, 9), 3);
        x.pass(55);
        due("observe on night 59", x.observe(), 1);
        due("night", x.night(), 60);
        CHECKS.badState(x, "observe on night 60", () -> x.observe());
        due("visits on night 60", x.visits(), 0);
    }

    private static void pass() {
        SkyPlan x = Starts.pole();
        x.addTarget(0, 30, 0, 1, 5);
        x.setMoon(1400, 7, 28);
        CHECKS.badArgument(x, "pass(0)", () -> x.pass(0));
        CHECKS.badArgument(x, "pass(-1)", () -> x.pass(-1));
        CHECKS.badArgument(x, "pass(61)", () -> x.pass(61));
        CHECKS.badArgument(x, "pass(MAX)", () -> x.pass(MAX));
        CHECKS.badArgument(x, "pass(MIN)", () -> x.pass(MIN));
        due("pass(2)", x.pass(2), 2);
        due("the moon", x.digest(), digestOf(x, 58, 7, 0));
        due("nothing was had", x.target(0, 8), 0);
        CHECKS.badArgument(x, "pass(59)", () -> x.pass(59));
        due("pass(58)", x.pass(58), 60);
        due("the moon", x.digest(), digestOf(x, (1400 + 60 * 49) % 1440, 7, 28));
        CHECKS.badArgument(x, "pass(1)", () -> x.pass(1));
        due("pass(60)", new SkyPlan().pass(60), 60);
    }

    private static void nightAndLight() {
        SkyPlan x = new SkyPlan();
        for (int night = 0; night < 60; night++) {
            int age = night % 30;
            due("night", x.night(), night);
            due("light", x.light(), 100 - 100 * (age > 15 ? age - 15 : 15 - age) / 15);
            x.pass(1);
        }
        due("night", x.night(), 60);
        due("light", x.light(), 0);
        due("setMoon", x.setMoon(0, 0, 13), 87);
        due("light", x.light(), 87);
    }

    /** The checksum from what the other calls answer, with the moon as it is due. */
    private static long digestOf(SkyPlan x, int moonRise, int moonDeclination, int moonAge) {
        long d = Checks.sum(x.night(), x.setLength(60), 90, 0, moonRise, moonDeclination, moonAge, x.count(0));
        for (int target = 0; target < x.count(0); target++) {
            for (int what = 0; what < 10; what++) {
                d = d * 31 + x.target(target, what);
            }
            for (int what = 0; what < 5; what++) {
                d = d * 31 + x.window(target, what);
            }
        }
        d = d * 31 + x.visits();
        for (int index = 0; index < x.visits(); index++) {
            for (int what = 0; what < 4; what++) {
                d = d * 31 + x.visit(index, what);
            }
        }
        return d;
    }

    private static void digest() {
        SkyPlan x = Starts.pole();
        x.addTarget(8, 30, 0, 1, 5);
        due("digest", x.digest(), Checks.sum(0, 60, 90, 0, 0, 0, 0, 1, 8, 30, 0, 1, 300, 5, 1, 1, 0, -1,
                0, 59, 60, 0, 0, 1, 0, 2, 2, 148));
        x.addTarget(9, -30, 2, 7, 6);
        due("digest", x.digest(), Checks.sum(0, 60, 90, 0, 0, 0, 0, 2, 8, 30, 0, 1, 300, 5, 1, 1, 0, -1,
                0, 59, 60, 0, 0, 9, -30, 2, 7, 300, 6, 1, 1, 0, -1, -1, -1, 0, 0, -1, 1, 0, 2, 2, 148));
        x.setSite(80, 3);
        long before = x.digest();
        x.setSite(80, 4);
        CHECKS.due("another start, another digest", x.digest() != before, true);
    }
}
