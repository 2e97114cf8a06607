/**
 * The edges that "Terms" names for time, sine, sky, moon and clouds. On the equator a point with the
 * declination 0 has the cosine of its angle as its height; at the pole each height is the sine of
 * the declination.
 */
public final class SkyEdgesTest {
    private static final Checks CHECKS = new Checks();

    public static void main(String[] args) {
        sineOfEachDegree();
        sineWhereItTurns();
        clockBehind1439();
        angleOfAPointJustRisen();
        angleCutToDegrees();
        heightCutTowardsZero();
        heightAtThePoles();
        differenceOfRiseNumbers();
        nearnessCutTowardsZero();
        nearnessAtThePoles();
        lightOfEachAge();
        moonRisesByTheRemainder();
        moonAgeAfter29();
        moonThroughSixtyNights();
        moonInTheSkyBehindTheWrap();
        firstAndLastMinute();
        lengthFromThisNightOn();
        cloudsWithBothMinutes();
        cloudsOverlapping();
        noCloudAndAllClouds();
        cloudsToldEightTimesAlike();
        cloudsGoneBehindTheNight();
        cloudsOutsideTheNight();
        CHECKS.end();
    }

    private static void due(String call, long got, long want) {
        CHECKS.due(call, got, want);
    }

    private static int firstHalfSine(int d) {
        return 4000 * d * (180 - d) / (40500 - d * (180 - d));
    }

    /** "For whole degrees d from 0 to 180 .., from 180 to 360 it is minus that of d - 180; the same for d + 360" */
    private static void sineOfEachDegree() {
        SkyPlan x = new SkyPlan();
        for (int degrees = -10000; degrees <= 10000; degrees++) {
            if (degrees % 500 == 0) {
                x = new SkyPlan();
            }
            int turned = Math.floorMod(degrees, 360);
            int want = turned <= 180 ? firstHalfSine(turned) : -firstHalfSine(turned - 180);
            due("sine(" + degrees + ")", x.sine(degrees), want);
        }
    }

    private static void sineWhereItTurns() {
        SkyPlan x = new SkyPlan();
        int[][] rows = {{0, 0}, {1, 17}, {89, 999}, {90, 1000}, {91, 999}, {179, 17}, {180, 0}, {181, -17}, {269, -999},
            {270, -1000}, {271, -999}, {359, -17}, {360, 0}, {361, 17}, {450, 1000}, {540, 0}, {541, -17}, {719, -17},
            {720, 0}, {-1, -17}, {-89, -999}, {-90, -1000}, {-179, -17}, {-180, 0}, {-181, 17}, {-270, 1000},
            {-359, 17}, {-360, 0}, {-361, -17}, {9999, -987}, {10000, -984}, {-9999, 987}, {-10000, 984}};
        for (int[] row : rows) {
            due("sine(" + row[0] + ")", x.sine(row[0]), row[1]);
        }
    }

    /** The height, on the equator, of a point with this rise number; the night and the minute are given. */
    private static int heightOnTheEquator(int start, int night, int minute, int rise) {
        SkyPlan x = Starts.equator(start);
        x.setLength(900);
        if (night > 0) {
            x.pass(night);
        }
        x.addTarget(rise, 0, 0, 1, 5);
        x.setMoon(rise, 0, 0);
        due("moonHeight", x.moonHeight(minute), x.height(0, minute));
        return x.height(0, minute);
    }

    private static void dueHeight(int start, int night, int minute, int rise, int want) {
        String name = "start " + start + ", night " + night + ", minute " + minute + ", rise " + rise;
        due(name, heightOnTheEquator(start, night, minute, rise), want);
    }

    /** "The sky clock at the minute t of the night n shows (start + 4 * n + t) % 1440." */
    private static void clockBehind1439() {
        dueHeight(1439, 0, 0, 1439, 1000);
        dueHeight(1439, 0, 0, 0, 999);
        dueHeight(1439, 0, 1, 0, 1000);
        dueHeight(1439, 0, 1, 1, 999);
        dueHeight(1435, 1, 0, 1439, 1000);
        dueHeight(1435, 1, 0, 0, 999);
        dueHeight(1436, 1, 0, 0, 1000);
        dueHeight(1436, 1, 0, 1, 999);
        dueHeight(1200, 60, 0, 0, 1000);
        dueHeight(1200, 60, 0, 1, 999);
        dueHeight(1199, 60, 0, 1439, 1000);
        dueHeight(1439, 60, 899, 1138, 1000);
        dueHeight(1439, 60, 899, 1139, 999);
        dueHeight(0, 60, 0, 240, 1000);
        dueHeight(0, 60, 0, 241, 999);
        dueHeight(541, 0, 899, 0, 1000);
        dueHeight(540, 0, 899, 0, 999);
    }

    /** "((c less its rise number, and 1440) % 1440) / 4": from 0 on, and 359 right before it. */
    private static void angleOfAPointJustRisen() {
        dueHeight(0, 0, 0, 0, 1000);
        dueHeight(0, 0, 0, 1, 999);
        dueHeight(0, 0, 0, 1439, 1000);
        dueHeight(1439, 0, 0, 1439, 1000);
        dueHeight(700, 0, 0, 701, 999);
        dueHeight(700, 0, 1, 701, 1000);
    }

    private static void angleCutToDegrees() {
        dueHeight(0, 0, 3, 0, 1000);
        dueHeight(0, 0, 4, 0, 999);
        dueHeight(0, 0, 359, 0, 17);
        dueHeight(0, 0, 360, 0, 0);
        dueHeight(0, 0, 363, 0, 0);
        dueHeight(0, 0, 364, 0, -17);
        dueHeight(0, 0, 719, 0, -999);
        dueHeight(0, 0, 720, 0, -1000);
        dueHeight(0, 0, 723, 0, -1000);
        dueHeight(0, 0, 724, 0, -999);
        dueHeight(1079, 0, 0, 0, -17);
        dueHeight(1080, 0, 0, 0, 0);
        dueHeight(1083, 0, 0, 0, 0);
        dueHeight(1084, 0, 0, 0, 17);
        dueHeight(1435, 0, 0, 0, 999);
        dueHeight(1436, 0, 0, 0, 999);
    }

    /** "What is said to be divided is cut towards 0." */
    private static void heightCutTowardsZero() {
        SkyPlan x = Starts.equator(0);
        x.addTarget(680, 50, 0, 1, 5);
        x.addTarget(1400, 50, 0, 1, 5);
        due("641 * -984 / 1000", x.height(0, 0), -630);
        x.addTarget(720, 50, 0, 1, 5);
        due("641 * -1000 / 1000", x.height(2, 0), -641);
        due("641 * -999 / 1000", x.height(2, 4), -640);
        due("641 * 984 / 1000", x.height(1, 0), 630);
    }

    private static void heightAtThePoles() {
        SkyPlan x = new SkyPlan();
        x.addTarget(0, 90, 0, 1, 5);
        x.addTarget(0, -90, 0, 1, 5);
        x.addTarget(0, 1, 0, 1, 5);
        int[][] rows = {{90, 1000, -1000, 17}, {-90, -1000, 1000, -17}, {0, 0, 0, 999}, {1, 17, -17, 998}};
        for (int[] row : rows) {
            x.setSite(row[0], 0);
            for (int target = 0; target < 3; target++) {
                due("height of " + target + " at " + row[0], x.height(target, 0), row[target + 1]);
            }
        }
    }

    /** "g is the difference (without sign) of both rise numbers, divided by 4": it goes up to 359. */
    private static void differenceOfRiseNumbers() {
        int[][] rows = {{0, 0, 1000}, {0, 3, 1000}, {0, 4, 999}, {0, 359, 17}, {0, 360, 0}, {0, 363, 0}, {0, 364, -17},
            {0, 719, -999}, {0, 720, -1000}, {0, 723, -1000}, {0, 724, -999}, {0, 1080, 0}, {0, 1084, 17},
            {0, 1436, 999}, {0, 1439, 999}, {1, 1439, 999}, {4, 1439, 999}, {1436, 1439, 1000}, {1435, 1439, 999}};
        for (int[] row : rows) {
            SkyPlan x = new SkyPlan();
            x.addTarget(row[0], 0, 0, 1, 5);
            x.addTarget(row[1], 0, 0, 1, 5);
            String name = "nearness of " + row[0] + " and " + row[1];
            due(name, x.nearness(0, 1), row[2]);
            due(name + ", the other way round", x.nearness(1, 0), row[2]);
            x.setMoon(row[0], 0, 0);
            due(name + ", the first as the moon", x.moonNearness(1), row[2]);
            x.setMoon(row[1], 0, 0);
            due(name + ", the second as the moon", x.moonNearness(0), row[2]);
        }
    }

    private static void nearnessCutTowardsZero() {
        SkyPlan x = new SkyPlan();
        x.addTarget(0, 0, 0, 1, 5);
        x.addTarget(724, 50, 0, 1, 5);
        x.addTarget(4, 50, 0, 1, 5);
        due("641 * -999 / 1000", x.nearness(0, 1), -640);
        due("641 * 999 / 1000", x.nearness(0, 2), 640);
    }

    private static void nearnessAtThePoles() {
        SkyPlan x = new SkyPlan();
        x.addTarget(0, 90, 0, 1, 5);
        x.addTarget(720, 90, 0, 1, 5);
        x.addTarget(1439, -90, 0, 1, 5);
        due("the pole and itself", x.nearness(0, 0), 1000);
        due("the pole by another rise number", x.nearness(0, 1), 1000);
        due("both poles", x.nearness(1, 2), -1000);
        x.setMoon(3, -90, 0);
        due("the moon at the other pole", x.moonNearness(0), -1000);
        due("the moon at the same pole", x.moonNearness(2), 1000);
    }

    /** "its light is 100 less 100 * |age - 15| / 15" */
    private static void lightOfEachAge() {
        int[] lights = {0, 7, 14, 20, 27, 34, 40, 47, 54, 60, 67, 74, 80, 87, 94, 100, 94, 87, 80, 74, 67, 60, 54, 47, 40,
            34, 27, 20, 14, 7};
        SkyPlan x = new SkyPlan();
        for (int age = 0; age < 30; age++) {
            due("setMoon with the age " + age, x.setMoon(0, 0, age), lights[age]);
            due("light at the age " + age, x.light(), lights[age]);
        }
    }

    /** The digest of an object without targets tells the moon. */
    private static void dueMoon(SkyPlan x, int rise, int declination, int age) {
        long want = Checks.sum(x.night(), 600, 50, 0, rise, declination, age, 0, 0);
        due("the moon of night " + x.night() + " is " + rise + ", " + declination + ", " + age, x.digest(), want);
    }

    /** "From each night to the next one its rise number becomes 49 greater, by the remainder of 1440" */
    private static void moonRisesByTheRemainder() {
        int[][] rows = {{0, 49}, {1389, 1438}, {1390, 1439}, {1391, 0}, {1392, 1}, {1438, 47}, {1439, 48}};
        for (int[] row : rows) {
            SkyPlan x = new SkyPlan();
            x.setMoon(row[0], -90, 3);
            x.observe();
            dueMoon(x, row[1], -90, 4);
            x.setMoon(row[0], 90, 3);
            x.pass(1);
            dueMoon(x, row[1], 90, 4);
        }
    }

    /** "and its age 1 greater, after 29 it is 0" */
    private static void moonAgeAfter29() {
        SkyPlan x = new SkyPlan();
        due("light at the age 28", x.setMoon(0, 5, 28), 14);
        x.observe();
        due("light at the age 29", x.light(), 7);
        dueMoon(x, 49, 5, 29);
        x.observe();
        due("light at the age 0", x.light(), 0);
        dueMoon(x, 98, 5, 0);
        x.pass(1);
        due("light at the age 1", x.light(), 7);
        dueMoon(x, 147, 5, 1);
        x.pass(29);
        dueMoon(x, 147 + 29 * 49 - 1440, 5, 0);
        due("night", x.pass(14), 46);
        due("light at the age 14", x.light(), 94);
        x.pass(1);
        due("light at the age 15", x.light(), 100);
        x.pass(1);
        due("light at the age 16", x.light(), 94);
    }

    private static void moonThroughSixtyNights() {
        SkyPlan slow = new SkyPlan();
        slow.setMoon(1439, -1, 29);
        for (int night = 1; night <= 60; night++) {
            int due = night % 7 == 0 ? slow.observe() : slow.pass(1);
            due("the night", slow.night(), due == 0 ? night : due);
            dueMoon(slow, (1439 + 49 * night) % 1440, -1, (29 + night) % 30);
            SkyPlan fast = new SkyPlan();
            fast.setMoon(1439, -1, 29);
            fast.pass(night);
            due("the digest behind pass(" + night + ")", fast.digest(), slow.digest());
        }
    }

    /** A rise number of 1440 would be another point than one of 0. */
    private static void moonInTheSkyBehindTheWrap() {
        SkyPlan x = Starts.equator(1436);
        x.addTarget(1, 0, 0, 1, 5);
        x.addTarget(0, 0, 0, 1, 5);
        x.setMoon(1391, 0, 29);
        due("nearness on night 0", x.moonNearness(0), 974);
        x.pass(1);
        due("nearness on night 1", x.moonNearness(0), 1000);
        due("nearness on night 1", x.moonNearness(1), 1000);
        due("height on night 1", x.moonHeight(0), 1000);
        due("height on night 1", x.moonHeight(4), 999);
        x.setMoon(1390, 0, 29);
        x.pass(1);
        due("nearness to 1439", x.moonNearness(0), 999);
        due("height of 1439 at the clock 4", x.moonHeight(0), 999);
    }

    /** "Time is counted in minutes of a night, 0 to its length less 1; the length is 60 to 900 (600, at first)." */
    private static void firstAndLastMinute() {
        SkyPlan x = Starts.equator(0);
        x.addTarget(300, 0, 0, 1, 5);
        due("height at the minute 0", x.height(0, 0), x.sine(375));
        due("height at the minute 599", x.height(0, 599), x.sine(164));
        CHECKS.badArgument(x, "height at the minute 600", () -> x.height(0, 600));
        CHECKS.badArgument(x, "reason at the minute 600", () -> x.reason(0, 600));
        CHECKS.badArgument(x, "moonHeight at the minute 600", () -> x.moonHeight(600));
        CHECKS.badArgument(x, "clouds at the minute 600", () -> x.addClouds(0, 600));
        due("clouds at the minute 599", x.addClouds(599, 599), 599);
        due("reason at the minute 599", x.reason(0, 599), 1);
        due("reason at the minute 598", x.reason(0, 598), 2);
    }

    /** "Sets the length of the nights, from this one on." */
    private static void lengthFromThisNightOn() {
        SkyPlan x = new SkyPlan();
        x.addTarget(0, 40, 0, 1, 5);
        x.setLength(60);
        x.observe();
        CHECKS.badArgument(x, "height at the minute 60", () -> x.height(0, 60));
        due("setLength(61)", x.setLength(61), 60);
        due("height at the minute 60", x.height(0, 60), 959);
        x.pass(59);
        CHECKS.badArgument(x, "height at the minute 61", () -> x.height(0, 61));
        due("setLength(900) on night 60", x.setLength(900), 61);
        due("moonHeight at the minute 899", x.moonHeight(899) >= -1000 ? 1 : 0, 1);
        due("setLength(60) on night 60", x.setLength(60), 900);
        CHECKS.badArgument(x, "moonHeight at the minute 60", () -> x.moonHeight(60));
    }

    /** One target at the pole that can be seen at every minute without clouds. */
    private static SkyPlan seenAtThePole() {
        SkyPlan x = Starts.pole();
        x.addTarget(0, 90, 0, 1, 5);
        return x;
    }

    private static void dueClouds(SkyPlan x, String sky) {
        for (int time = 0; time < sky.length(); time++) {
            due("reason at " + time, x.reason(0, time), sky.charAt(time) == 'c' ? 1 : 0);
        }
    }

    private static String sky(int... cloudy) {
        StringBuilder sky = new StringBuilder(".".repeat(60));
        for (int minute : cloudy) {
            sky.setCharAt(minute, 'c');
        }
        return sky.toString();
    }

    /** "from a minute to a minute, both with them" */
    private static void cloudsWithBothMinutes() {
        SkyPlan x = seenAtThePole();
        dueClouds(x, sky());
        due("a single minute", x.addClouds(30, 30), 59);
        dueClouds(x, sky(30));
        due("two minutes", x.addClouds(10, 11), 57);
        dueClouds(x, sky(10, 11, 30));
        due("the first minute", x.addClouds(0, 0), 56);
        due("the last minute", x.addClouds(59, 59), 55);
        dueClouds(x, sky(0, 10, 11, 30, 59));
    }

    private static void cloudsOverlapping() {
        SkyPlan x = seenAtThePole();
        due("20 to 29", x.addClouds(20, 29), 50);
        due("the same", x.addClouds(20, 29), 50);
        due("inside", x.addClouds(21, 28), 50);
        due("right behind", x.addClouds(30, 30), 49);
        due("right before", x.addClouds(19, 19), 48);
        due("with a gap of a minute", x.addClouds(32, 33), 46);
        due("the gap and both beside it", x.addClouds(30, 32), 45);
        due("round all", x.addClouds(1, 58), 2);
        due("seen", x.window(0, 2), 2);
        due("the first", x.window(0, 0), 0);
        due("the last", x.window(0, 1), 59);
    }

    private static void noCloudAndAllClouds() {
        int[] lengths = {60, 600, 900};
        for (int length : lengths) {
            SkyPlan x = seenAtThePole();
            x.setLength(length);
            due("seen without clouds", x.window(0, 2), length);
            due("all but the first minute", x.addClouds(1, length - 1), 1);
            due("all the night", x.addClouds(0, length - 1), 0);
            due("seen", x.window(0, 2), 0);
            due("reason at the last minute", x.reason(0, length - 1), 1);
            SkyPlan y = seenAtThePole();
            y.setLength(length);
            due("all but the last minute", y.addClouds(0, length - 2), 1);
            due("the last minute", y.window(0, 0), length - 1);
        }
    }

    /** "if clouds were told 8 times": times count, not minutes. */
    private static void cloudsToldEightTimesAlike() {
        SkyPlan x = seenAtThePole();
        for (int time = 0; time < 8; time++) {
            due("the same minute", x.addClouds(7, 7), 59);
        }
        CHECKS.badState(x, "the same minute for the 9th time", () -> x.addClouds(7, 7));
        SkyPlan y = seenAtThePole();
        for (int time = 0; time < 8; time++) {
            due("another minute", y.addClouds(7 * time + 3, 7 * time + 4), 58 - 2 * time);
        }
        dueClouds(y, sky(3, 4, 10, 11, 17, 18, 24, 25, 31, 32, 38, 39, 45, 46, 52, 53));
        CHECKS.badState(y, "another minute for the 9th time", () -> y.addClouds(59, 59));
    }

    /** "Behind the night they are gone." */
    private static void cloudsGoneBehindTheNight() {
        SkyPlan x = seenAtThePole();
        x.addClouds(0, 59);
        x.observe();
        dueClouds(x, sky());
        due("clouds of night 1", x.addClouds(5, 9), 55);
        x.pass(1);
        dueClouds(x, sky());
        due("clouds of night 2", x.addClouds(9, 9), 59);
        dueClouds(x, sky(9));
        x.pass(58);
        dueClouds(x, sky());
        due("clouds of night 60", x.addClouds(59, 59), 59);
        dueClouds(x, sky(59));
    }

    /** Clouds are told for minutes: those outside a night that has become shorter are none of its minutes. */
    private static void cloudsOutsideTheNight() {
        SkyPlan x = seenAtThePole();
        x.setLength(900);
        due("the last minutes of a long night", x.addClouds(50, 899), 50);
        x.setLength(60);
        dueClouds(x, sky(50, 51, 52, 53, 54, 55, 56, 57, 58, 59));
        due("minutes without clouds of a short night", x.addClouds(0, 9), 40);
        CHECKS.badArgument(x, "to a minute that was one before", () -> x.addClouds(59, 60));
        x.setLength(61);
        due("to a minute that is one now", x.addClouds(59, 60), 40);
    }
}
