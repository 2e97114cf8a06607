/**
 * The edges that "Terms" and the promises 7 to 17 name for targets: when they are open, when they
 * can be seen, their window and their counts.
 */
public final class TargetEdgesTest {
    private static final Checks CHECKS = new Checks();

    public static void main(String[] args) {
        whatATargetHasAtFirst();
        targetsAlike();
        openByItsVisits();
        openByItsNights();
        openOnTheFirstNight();
        openOnTheLastNight();
        openWithoutAVisit();
        seenAtItsLeastHeight();
        seenAtEachLeastHeight();
        seenAtTheMoonsHeight();
        seenAtTheMoonsNearness();
        seenByTheLight();
        firstReasonOfSeveral();
        windowAtTheEdgesOfTheNight();
        windowOfOneMinute();
        windowOfNoMinute();
        highestAtItsFirstMinute();
        highestBelowTheHorizon();
        beginOfAVisit();
        beginWithinTheNight();
        countWithoutTargets();
        countOfTwenty();
        countOfAllVisits();
        countBehindWant();
        CHECKS.end();
    }

    private static void due(String call, long got, long want) {
        CHECKS.due(call, got, want);
    }

    private static void dueOpen(String when, SkyPlan x, boolean want) {
        CHECKS.due("isOpen(0) " + when, x.isOpen(0), want);
        due("count(1) " + when, x.count(1), want ? 1 : 0);
    }

    private static void dueWindow(String name, SkyPlan x, int... want) {
        CHECKS.dueEach(name + ": window", what -> x.window(0, what), want);
    }

    private static void dueCounts(String name, SkyPlan x, int... want) {
        CHECKS.dueEach(name + ": count", x::count, want);
    }

    /** "a least height (300, at first); how many visits it wants (1, at first); how many nights (1, at first)" */
    private static void whatATargetHasAtFirst() {
        SkyPlan x = Starts.midway();
        due("addTarget", x.addTarget(1, 2, 3, 4, 5), 3);
        CHECKS.dueEach("target 3", what -> x.target(3, what), 1, 2, 3, 4, 300, 5, 1, 1, 0, -1);
        CHECKS.due("isOpen(3)", x.isOpen(3), true);
        // on the equator a declination of -72 gives 300 at the angle 14 and 299 at the angle 15
        SkyPlan y = Starts.equator(0);
        y.addTarget(1384, -72, 0, 1, 5);
        due("height at 3", y.height(0, 3), 300);
        due("reason at 3", y.reason(0, 3), 0);
        due("height at 4", y.height(0, 4), 299);
        due("reason at 4", y.reason(0, 4), 2);
    }

    /** Targets may have the same point; each is one of its own. */
    private static void targetsAlike() {
        SkyPlan x = Starts.pole();
        for (int number = 0; number < 20; number++) {
            due("addTarget", x.addTarget(5, 60, 1, 2, 6), number);
        }
        due("want of target 7", x.want(7, 1000, 3, 4), 1);
        due("least height of target 6", x.target(6, 4), 300);
        due("least height of target 7", x.target(7, 4), 1000);
        due("least height of target 8", x.target(8, 4), 300);
        due("reason of target 6", x.reason(6, 0), 0);
        due("reason of target 7", x.reason(7, 0), 2);
        due("nearness of both", x.nearness(6, 7), (864 * 864 + 500 * 500 / 1000 * 1000) / 1000);
    }

    /** One target at the pole that is observed each night on which it is open. */
    private static SkyPlan one(int visits, int nights) {
        SkyPlan x = Starts.pole();
        x.addTarget(0, 60, 0, 1, 5);
        x.want(0, 300, visits, nights);
        return x;
    }

    /** "if it has had less visits than it wants" */
    private static void openByItsVisits() {
        SkyPlan x = one(10, 1);
        for (int had = 0; had < 10; had++) {
            dueOpen("behind " + had + " of 10", x, true);
            due("observe", x.observe(), 1);
            due("had", x.target(0, 8), had + 1);
        }
        dueOpen("behind 10 of 10", x, false);
        due("observe", x.observe(), 0);
        due("had", x.target(0, 8), 10);
        due("the latest", x.target(0, 9), 9);
        SkyPlan y = one(3, 1);
        y.observe();
        y.observe();
        y.want(0, 300, 2, 1);
        dueOpen("if it wants as many as it has had", y, false);
        y.want(0, 300, 1, 1);
        dueOpen("if it wants less than it has had", y, false);
        y.want(0, 300, 3, 1);
        dueOpen("if it wants one more", y, true);
    }

    /** "the latest one so many nights ago or more" */
    private static void openByItsNights() {
        for (int nights = 1; nights <= 20; nights++) {
            SkyPlan x = one(3, nights);
            x.pass(5);
            due("observe", x.observe(), 1);
            for (int ago = 1; ago <= 21; ago++) {
                dueOpen(ago + " nights ago, with " + nights + " due", x, ago >= nights);
                x.pass(1);
            }
            due("observe", x.observe(), 1);
            dueOpen("a night behind the second visit", x, nights == 1);
            x.pass(nights == 1 ? 1 : nights - 1);
            dueOpen("as many nights as are due behind the second visit", x, true);
        }
    }

    /** A visit on night 0 is one, though 0 is as little as a night can be. */
    private static void openOnTheFirstNight() {
        SkyPlan x = one(2, 2);
        dueOpen("on night 0", x, true);
        due("the latest", x.target(0, 9), -1);
        x.observe();
        due("the latest", x.target(0, 9), 0);
        dueOpen("on night 1", x, false);
        x.pass(1);
        dueOpen("on night 2", x, true);
    }

    private static void openOnTheLastNight() {
        SkyPlan x = one(2, 20);
        x.pass(40);
        x.observe();
        x.pass(18);
        dueOpen("on night 59", x, false);
        x.pass(1);
        dueOpen("on night 60", x, true);
        due("visits", x.visits(), 1);
        x.want(0, 300, 1, 20);
        dueOpen("on night 60, if it wants as many as it has had", x, false);
        due("visits", x.visits(), 0);
    }

    /** "and none": then it doesn't matter how many nights there have to be. */
    private static void openWithoutAVisit() {
        SkyPlan x = one(1, 20);
        for (int night = 0; night < 22; night++) {
            dueOpen("without a visit on night " + night, x, true);
            x.addClouds(0, 59);
            due("observe", x.observe(), 0);
        }
    }

    /** "its height is at least its least one" */
    private static void seenAtItsLeastHeight() {
        SkyPlan x = Starts.pole();
        int[][] rows = {{30, 500}, {0, 0}, {1, 17}, {-1, -17}, {-30, -500}, {89, 999}, {-89, -999}, {-90, -1000}};
        for (int target = 0; target < rows.length; target++) {
            x.addTarget(0, rows[target][0], 0, 1, 5);
            int height = rows[target][1];
            due("height", x.height(target, 0), height);
            x.want(target, height, 1, 1);
            due("reason at " + height, x.reason(target, 0), 0);
            x.want(target, height + 1, 1, 1);
            due("reason at one less than " + (height + 1), x.reason(target, 0), 2);
            if (height > -1000) {
                x.want(target, height - 1, 1, 1);
                due("reason at one more than " + (height - 1), x.reason(target, 0), 0);
            }
        }
    }

    /** The least height 1000 lets the point above the site through alone, -1000 each one. */
    private static void seenAtEachLeastHeight() {
        SkyPlan x = Starts.pole();
        x.addTarget(0, 90, 0, 1, 5);
        x.addTarget(0, 89, 0, 1, 5);
        x.addTarget(0, -90, 0, 1, 5);
        int[][] rows = {{1000, 0, 2, 2}, {999, 0, 0, 2}, {-999, 0, 0, 2}, {-1000, 0, 0, 0}};
        for (int[] row : rows) {
            for (int target = 0; target < 3; target++) {
                x.want(target, row[0], 1, 1);
                due("reason of " + target + " with " + row[0], x.reason(target, 0), row[target + 1]);
            }
        }
    }

    /** "the moon's height is at most 0": at latitude 50 these moons have the heights 1, 0, -1. */
    private static void seenAtTheMoonsHeight() {
        int[][] rows = {{36, -34, 1, 3}, {0, -40, 0, 0}, {1, -40, -1, 0}};
        for (int[] row : rows) {
            SkyPlan x = new SkyPlan();
            int rise = (1440 - 4 * row[0]) % 1440;
            x.addTarget(rise, row[1], 0, 1, 5);
            x.want(0, -1000, 1, 1);
            x.setMoon(rise, row[1], 15);
            due("moonHeight", x.moonHeight(0), row[2]);
            due("reason at this height of the moon", x.reason(0, 0), row[3]);
        }
    }

    /** "its nearness to the moon is at most 1000 less 5 times the light" */
    private static void seenAtTheMoonsNearness() {
        int[][] rows = {{15, 248, 12, 500, 0}, {15, 236, 7, 501, 3}, {14, 208, 0, 530, 0}, {14, 224, 6, 531, 3},
            {16, 1232, 0, 530, 0}, {16, 1216, 6, 531, 3}, {1, 12, 16, 965, 0}, {1, 4, 16, 966, 3},
            {29, 1424, 16, 965, 0}, {29, 1432, 16, 966, 3}, {0, 0, 30, 996, 0}};
        for (int[] row : rows) {
            SkyPlan x = Starts.pole();
            x.addTarget(row[1], row[2], 0, 1, 5);
            x.want(0, -1000, 1, 1);
            x.setMoon(0, 30, row[0]);
            due("moonNearness", x.moonNearness(0), row[3]);
            due("reason at the nearness " + row[3], x.reason(0, 0), row[4]);
        }
    }

    /** Without light the moon disturbs nothing, not even at its own point; at its brightest 500 is near enough. */
    private static void seenByTheLight() {
        SkyPlan x = Starts.pole();
        x.addTarget(0, 90, 0, 1, 5);
        x.addTarget(0, -30, 0, 1, 5);
        x.addTarget(0, 30, 0, 1, 5);
        x.want(1, -1000, 1, 1);
        for (int age = 0; age < 30; age++) {
            x.setMoon(0, 90, age);
            due("reason at the moon's own point, age " + age, x.reason(0, 0), age == 0 ? 0 : 3);
            due("reason on the other side, age " + age, x.reason(1, 0), 0);
            due("reason at the nearness 500, age " + age, x.reason(2, 0), 0);
        }
    }

    /** "the number of the first reason: 1 clouds, 2 its height, 3 the moon" */
    private static void firstReasonOfSeveral() {
        for (int reasons = 0; reasons < 8; reasons++) {
            boolean hasClouds = (reasons & 1) != 0;
            boolean isLow = (reasons & 2) != 0;
            boolean isMoonNear = (reasons & 4) != 0;
            SkyPlan x = Starts.pole();
            x.addTarget(0, 30, 0, 1, 5);
            x.want(0, isLow ? 501 : 500, 1, 1);
            x.setMoon(0, 30, isMoonNear ? 15 : 0);
            if (hasClouds) {
                x.addClouds(59, 59);
            }
            int want = hasClouds ? 1 : isLow ? 2 : isMoonNear ? 3 : 0;
            due("reason of " + reasons, x.reason(0, 59), want);
        }
    }

    private static void windowAtTheEdgesOfTheNight() {
        int[] lengths = {60, 600, 900};
        for (int length : lengths) {
            SkyPlan x = Starts.pole();
            x.setLength(length);
            x.addTarget(0, 30, 0, 1, 5);
            dueWindow("all the night", x, 0, length - 1, length, 0, 0);
            x.addClouds(0, 0);
            dueWindow("from the second minute on", x, 1, length - 1, length - 1, 0, 1);
            x.addClouds(length - 1, length - 1);
            dueWindow("to the second last minute", x, 1, length - 2, length - 2, 0, 1);
        }
    }

    private static void windowOfOneMinute() {
        int[] minutes = {0, 1, 30, 58, 59};
        for (int minute : minutes) {
            SkyPlan x = Starts.pole();
            x.addTarget(0, 30, 0, 1, 5);
            if (minute > 0) {
                x.addClouds(0, minute - 1);
            }
            if (minute < 59) {
                x.addClouds(minute + 1, 59);
            }
            dueWindow("the minute " + minute + " alone", x, minute, minute, 1, 0, -1);
        }
    }

    /** "-1 for 0, 1 and 4 if there is none" */
    private static void windowOfNoMinute() {
        SkyPlan x = Starts.pole();
        x.addTarget(0, 30, 0, 1, 5);
        x.addClouds(0, 59);
        dueWindow("clouds", x, -1, -1, 0, 0, -1);
        x.pass(1);
        x.want(0, 501, 1, 1);
        dueWindow("too low", x, -1, -1, 0, 0, -1);
        x.want(0, 500, 1, 1);
        dueWindow("high enough", x, 0, 59, 60, 0, 0);
        x.setMoon(0, 30, 15);
        dueWindow("the moon", x, -1, -1, 0, 0, -1);
    }

    /** "the first minute at which it is highest (whether it can be seen or not)" */
    private static void highestAtItsFirstMinute() {
        SkyPlan x = Starts.equator(0);
        x.setLength(60);
        x.addTarget(8, 0, 0, 1, 5);
        dueWindow("the angle 0 is four minutes long", x, 0, 59, 60, 8, 0);
        x.addClouds(8, 8);
        dueWindow("clouds at the highest minute", x, 0, 59, 59, 8, 0);
        x.addClouds(0, 59);
        dueWindow("never seen", x, -1, -1, 0, 8, -1);
        SkyPlan y = Starts.equator(0);
        y.setLength(60);
        y.addTarget(0, 0, 0, 1, 5);
        dueWindow("sinking from the first minute on", y, 0, 59, 60, 0, 0);
        SkyPlan z = Starts.equator(0);
        z.setLength(60);
        z.addTarget(59, 0, 0, 1, 5);
        dueWindow("highest at the last minute alone", z, 0, 59, 60, 59, 0);
        z.setLength(61);
        dueWindow("highest at both last minutes", z, 0, 60, 61, 59, 0);
    }

    /** Through the angle 180 it is as high at the end as at the beginning, and everywhere below 0. */
    private static void highestBelowTheHorizon() {
        SkyPlan x = Starts.equator(0);
        x.setLength(60);
        x.addTarget(748, 0, 0, 1, 5);
        due("height at the first minute", x.height(0, 0), -992);
        due("height at the last minute", x.height(0, 59), -992);
        dueWindow("first and last minute alike", x, -1, -1, 0, 0, -1);
        x.setSite(0, 4);
        due("height at the first minute", x.height(0, 0), -994);
        due("height at the minute 56", x.height(0, 56), x.height(0, 59));
        dueWindow("the last four minutes alike", x, -1, -1, 0, 56, -1);
    }

    /** "the first minute at which a visit can begin, so that it can be seen at each minute of it" */
    private static void beginOfAVisit() {
        SkyPlan x = Starts.pole();
        x.addTarget(0, 30, 0, 1, 20);
        x.addClouds(19, 19);
        dueWindow("19 minutes, then 40", x, 0, 59, 59, 0, 20);
        x.addClouds(40, 40);
        dueWindow("19, 20 and 19 minutes", x, 0, 59, 58, 0, 20);
        x.addClouds(20, 20);
        dueWindow("19 minutes each time", x, 0, 59, 57, 0, -1);
        SkyPlan y = Starts.pole();
        y.addTarget(0, 30, 0, 1, 20);
        y.addClouds(20, 59);
        dueWindow("the first 20 minutes", y, 0, 19, 20, 0, 0);
        y.addClouds(19, 19);
        dueWindow("the first 19 minutes", y, 0, 18, 19, 0, -1);
        // a visit may begin at the minute 0 here, though no telescope is ready then
        due("the first visit of the plan", y.visits(), 0);
    }

    /** The minutes of a visit are minutes of the night: at most as many as it has. */
    private static void beginWithinTheNight() {
        SkyPlan x = Starts.pole();
        x.addTarget(0, 30, 0, 1, 60);
        dueWindow("60 of 60 minutes", x, 0, 59, 60, 0, 0);
        SkyPlan y = Starts.pole();
        y.addTarget(0, 30, 0, 1, 61);
        dueWindow("61 of 60 minutes", y, 0, 59, 60, 0, -1);
        y.setLength(61);
        dueWindow("61 of 61 minutes", y, 0, 60, 61, 0, 0);
        SkyPlan z = Starts.pole();
        z.addTarget(0, 30, 0, 1, 120);
        dueWindow("120 of 60 minutes", z, 0, 59, 60, 0, -1);
        z.setLength(120);
        z.addClouds(0, 0);
        dueWindow("119 minutes are left for 120", z, 1, 119, 119, 0, -1);
        z.setLength(121);
        dueWindow("120 minutes are left for 120", z, 1, 120, 120, 0, 1);
        SkyPlan w = Starts.pole();
        w.addTarget(0, 30, 0, 1, 5);
        w.addClouds(0, 54);
        dueWindow("the last 5 minutes", w, 55, 59, 5, 0, 55);
        w.addClouds(55, 55);
        dueWindow("the last 4 minutes", w, 56, 59, 4, 0, -1);
    }

    private static void countWithoutTargets() {
        SkyPlan x = new SkyPlan();
        dueCounts("no target", x, 0, 0, 0, 0);
        x.observe();
        dueCounts("no target, behind a night", x, 0, 0, 0, 0);
        x.pass(59);
        dueCounts("no target, on night 60", x, 0, 0, 0, 0);
    }

    /** 20 targets for which a night of 121 minutes is just long enough. */
    private static SkyPlan twenty(int visits) {
        SkyPlan x = Starts.twenty(121, 5);
        for (int target = 0; target < 20; target++) {
            x.want(target, 300, visits, 1);
        }
        return x;
    }

    private static void countOfTwenty() {
        SkyPlan x = twenty(1);
        dueCounts("20 new ones", x, 20, 20, 0, 0);
        due("observe", x.observe(), 20);
        dueCounts("20 that have had all", x, 20, 0, 20, 20);
        x.want(19, 300, 2, 1);
        dueCounts("the last one wants more", x, 20, 1, 19, 20);
        x.want(19, 300, 2, 2);
        dueCounts("the last one has to wait", x, 20, 0, 19, 20);
    }

    private static void countOfAllVisits() {
        SkyPlan x = twenty(10);
        for (int night = 0; night < 10; night++) {
            dueCounts("night " + night, x, 20, 20, 0, 20 * night);
            due("observe", x.observe(), 20);
        }
        dueCounts("10 visits each", x, 20, 0, 20, 200);
        due("observe", x.observe(), 0);
        dueCounts("not more than 10 visits each", x, 20, 0, 20, 200);
    }

    private static void countBehindWant() {
        SkyPlan x = twenty(3);
        x.observe();
        x.observe();
        dueCounts("2 of 3", x, 20, 20, 0, 40);
        for (int target = 0; target < 20; target++) {
            x.want(target, 300, 2, 1);
        }
        dueCounts("2 of 2", x, 20, 0, 20, 40);
        x.want(0, 300, 1, 1);
        dueCounts("2 of 1", x, 20, 0, 20, 40);
        x.want(0, 300, 3, 2);
        dueCounts("2 of 3 again, but last night", x, 20, 0, 19, 40);
    }
}
