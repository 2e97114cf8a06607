import java.math.BigInteger;

/** The edges of the nights, 0 to 60, and of the checksum: the promises 1 and 21 to 25. */
public final class NightEdgesTest {
    private static final Checks CHECKS = new Checks();

    public static void main(String[] args) {
        newObjects();
        observeEachNight();
        observeAndTheVisitsHad();
        observeTheFullestPlan();
        observeWithClouds();
        passToTheLastNight();
        passDoesNothing();
        everythingOnTheLastNight();
        digestOfNothing();
        digestAtTheEdges();
        digestBehind64Bits();
        digestOfTheFullestPlan();
        digestOfEachNumber();
        CHECKS.end();
    }

    private static void due(String call, long got, long want) {
        CHECKS.due(call, got, want);
    }

    /** "Creates a planner without targets and clouds, in the night 0." Two objects have nothing in common. */
    private static void newObjects() {
        SkyPlan x = Starts.full();
        SkyPlan y = new SkyPlan();
        due("night", y.night(), 0);
        due("light", y.light(), 0);
        due("count(0)", y.count(0), 0);
        due("visits", y.visits(), 0);
        due("digest", y.digest(), 9191100833403487L);
        due("moonHeight(599)", y.moonHeight(599), 641 * -855 / 1000);
        for (int time = 0; time < 8; time++) {
            due("addClouds", y.addClouds(time, time), 599 - time);
        }
        for (int number = 0; number < 20; number++) {
            due("addTarget", y.addTarget(0, 0, 0, 1, 5), number);
        }
        due("the other one's targets", x.count(0), 20);
        due("the other one's night", x.night(), 60);
        due("setSite", y.setSite(1, 1), 50);
        due("setLength", y.setLength(60), 600);
        due("pass(60)", y.pass(60), 60);
        due("another new one", new SkyPlan().digest(), 9191100833403487L);
    }

    private static SkyPlan one() {
        SkyPlan x = Starts.pole();
        x.addTarget(0, 30, 0, 1, 5);
        return x;
    }

    /** "the last one is 60" */
    private static void observeEachNight() {
        SkyPlan x = one();
        x.want(0, 300, 10, 7);
        for (int night = 0; night < 60; night++) {
            due("night", x.night(), night);
            boolean isDue = night % 7 == 0;
            due("observe on night " + night, x.observe(), isDue ? 1 : 0);
            due("had", x.target(0, 8), night / 7 + 1);
            due("the latest", x.target(0, 9), night / 7 * 7);
        }
        due("night", x.night(), 60);
        CHECKS.badState(x, "observe on night 60", () -> x.observe());
        CHECKS.badState(x, "observe on night 60, once more", () -> x.observe());
        due("night", x.night(), 60);
    }

    /** "each target in it has had a visit more, on this night": the others have not. */
    private static void observeAndTheVisitsHad() {
        SkyPlan x = Starts.pole();
        x.addTarget(0, -30, 0, 9, 5);
        x.addTarget(0, 30, 0, 1, 5);
        x.addTarget(0, 30, 0, 9, 60);
        x.addTarget(0, 40, 0, 1, 5);
        x.pass(7);
        due("observe", x.observe(), 2);
        int[] had = {0, 1, 0, 1};
        for (int target = 0; target < 4; target++) {
            due("had by " + target, x.target(target, 8), had[target]);
            due("the latest of " + target, x.target(target, 9), had[target] == 1 ? 7 : -1);
        }
        due("all visits", x.count(3), 2);
        due("observe with nothing in the plan", x.observe(), 0);
        due("all visits", x.count(3), 2);
        due("the latest of 3", x.target(3, 9), 7);
        due("night", x.night(), 9);
    }

    private static void observeTheFullestPlan() {
        SkyPlan x = Starts.full();
        due("visits on night 60", x.visits(), 20);
        for (int target = 0; target < 20; target++) {
            due("had by " + target, x.target(target, 8), 1);
            due("the latest of " + target, x.target(target, 9), 59);
        }
    }

    /** "then the next night begins, without clouds" */
    private static void observeWithClouds() {
        SkyPlan x = one();
        x.want(0, 300, 10, 1);
        x.addClouds(0, 59);
        due("observe under clouds", x.observe(), 0);
        due("had", x.target(0, 8), 0);
        due("seen on the next night", x.window(0, 2), 60);
        due("observe", x.observe(), 1);
        x.addClouds(4, 56);
        due("observe in 4 minutes", x.observe(), 0);
        due("had", x.target(0, 8), 1);
        due("the latest", x.target(0, 9), 1);
        due("seen on the next night", x.window(0, 2), 60);
    }

    /** "if nights is not 1 to 60, or the night would be greater than 60" */
    private static void passToTheLastNight() {
        due("pass(60) on night 0", new SkyPlan().pass(60), 60);
        for (int night = 1; night < 60; night++) {
            SkyPlan x = new SkyPlan();
            due("pass", x.pass(night), night);
            int tooMany = 61 - night;
            CHECKS.badArgument(x, "pass(" + tooMany + ") on night " + night, () -> x.pass(tooMany));
            CHECKS.badArgument(x, "pass(60) on night " + night, () -> x.pass(60));
            due("pass to the last night", x.pass(60 - night), 60);
            CHECKS.badArgument(x, "pass(1) on night 60", () -> x.pass(1));
            CHECKS.badArgument(x, "pass(0) on night 60", () -> x.pass(0));
            CHECKS.badArgument(x, "pass(MAX) on night 60", () -> x.pass(Integer.MAX_VALUE));
            due("night", x.night(), 60);
        }
    }

    /** "Lets nights pass in which nothing is done." */
    private static void passDoesNothing() {
        SkyPlan x = one();
        due("visits", x.visits(), 1);
        x.addClouds(50, 59);
        due("pass(1)", x.pass(1), 1);
        due("had", x.target(0, 8), 0);
        due("the latest", x.target(0, 9), -1);
        due("visits", x.visits(), 1);
        due("seen", x.window(0, 2), 60);
        due("pass(59)", x.pass(59), 60);
        due("all visits", x.count(3), 0);
    }

    /** On night 60 all calls but observe and pass go on as before. */
    private static void everythingOnTheLastNight() {
        SkyPlan x = one();
        x.pass(60);
        due("setSite", x.setSite(90, 1439), 90);
        due("setLength", x.setLength(900), 60);
        due("setMoon", x.setMoon(1439, -30, 15), 100);
        due("light", x.light(), 100);
        due("addClouds", x.addClouds(0, 9), 890);
        due("addTarget", x.addTarget(0, 40, 1, 2, 120), 1);
        due("want", x.want(1, 641, 2, 20), 1);
        due("reason", x.reason(1, 899), 0);
        due("visits", x.visits(), 2);
        due("the first visit", x.visit(0, 0), 1);
        due("its first minute", x.visit(0, 1), 10);
        CHECKS.due("use", x.use(), 125.0 / 900);
        CHECKS.badState(x, "observe", () -> x.observe());
        due("count(1)", x.count(1), 2);
    }

    /** The checksum in numbers without bounds, of which the last 64 bits count. */
    private static BigInteger sum(int... numbers) {
        BigInteger d = BigInteger.valueOf(347);
        for (int number : numbers) {
            d = d.multiply(BigInteger.valueOf(31)).add(BigInteger.valueOf(number));
        }
        return d;
    }

    private static void digestOfNothing() {
        SkyPlan x = new SkyPlan();
        due("digest", x.digest(), 9191100833403487L);
        due("digest", x.digest(), sum(0, 600, 50, 0, 0, 0, 0, 0, 0).longValue());
    }

    private static void digestAtTheEdges() {
        SkyPlan x = new SkyPlan();
        x.pass(60);
        x.setLength(900);
        x.setSite(-90, 1439);
        x.setMoon(1439, -90, 29);
        due("digest", x.digest(), 9250446353009594L);
        due("digest", x.digest(), sum(60, 900, -90, 1439, 1439, -90, 29, 0, 0).longValue());
    }

    /** "which wraps around as a 64-bit integer" */
    private static void digestBehind64Bits() {
        SkyPlan x = Starts.pole();
        x.addTarget(8, 30, 0, 1, 5);
        BigInteger sum = sum(0, 60, 90, 0, 0, 0, 0, 1, 8, 30, 0, 1, 300, 5, 1, 1, 0, -1, 0, 59, 60, 0, 0, 1, 0, 2, 2, 148);
        due("bits of the sum", sum.bitLength(), 148);
        due("digest", x.digest(), -8976263753653139615L);
        due("digest", x.digest(), sum.longValue());
    }

    /** The checksum of all that the other calls tell; the moon can't be told, so that it is handed over. */
    private static BigInteger sumOf(SkyPlan x, int length, int latitude, int start, int[] moon) {
        BigInteger d = sum(x.night(), length, latitude, start, moon[0], moon[1], moon[2], x.count(0));
        BigInteger base = BigInteger.valueOf(31);
        for (int target = 0; target < x.count(0); target++) {
            for (int what = 0; what < 15; what++) {
                int told = what < 10 ? x.target(target, what) : x.window(target, what - 10);
                d = d.multiply(base).add(BigInteger.valueOf(told));
            }
        }
        int visits = x.visits();
        d = d.multiply(base).add(BigInteger.valueOf(visits));
        for (int index = 0; index < visits; index++) {
            for (int what = 0; what < 4; what++) {
                d = d.multiply(base).add(BigInteger.valueOf(x.visit(index, what)));
            }
        }
        return d;
    }

    private static void digestOfTheFullestPlan() {
        SkyPlan x = Starts.full();
        int[] moon = {60 * 49 % 1440, 0, 0};
        due("digest of 20 targets and 20 visits", x.digest(), sumOf(x, 900, 90, 1439, moon).longValue());
        SkyPlan y = Starts.midway();
        int[] wrapped = {(1380 + 6 * 49) % 1440, -20, (27 + 6) % 30};
        due("digest of 3 targets and a visit", y.digest(), sumOf(y, 333, -37, 1400, wrapped).longValue());
    }

    private static void dueOther(String what, SkyPlan x, SkyPlan y) {
        CHECKS.due("the digest tells " + what, x.digest() != y.digest(), true);
    }

    /** Each number that can be changed by itself changes the checksum. */
    private static void digestOfEachNumber() {
        SkyPlan x = one();
        SkyPlan y = one();
        y.pass(30);
        y.setMoon(0, 0, 0);
        dueOther("the night", x, y);
        y = one();
        y.setLength(61);
        dueOther("the length", x, y);
        y = one();
        y.setSite(89, 0);
        dueOther("the latitude", x, y);
        y.setSite(90, 1);
        dueOther("the start", x, y);
        y = one();
        y.setMoon(1, 0, 0);
        dueOther("the moon's rise number", x, y);
        y.setMoon(0, -1, 0);
        dueOther("the moon's declination", x, y);
        y.setMoon(0, 0, 1);
        dueOther("the moon's age", x, y);
        y.setMoon(0, 0, 0);
        due("the same again", y.digest(), x.digest());
        y.addClouds(0, 0);
        dueOther("the window", x, y);
        y = one();
        y.want(0, 299, 1, 1);
        dueOther("the least height", x, y);
        y.want(0, 300, 2, 1);
        dueOther("how many visits it wants", x, y);
        y.want(0, 300, 1, 2);
        dueOther("how many nights there have to be", x, y);
    }
}
