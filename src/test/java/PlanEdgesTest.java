/** The edges that "Terms" names for the plan, and those of the promises 18 to 20: visits, visit, use. */
public final class PlanEdgesTest {
    private static final Checks CHECKS = new Checks();

    public static void main(String[] args) {
        planOfNothing();
        readyForTheFirstVisit();
        turningByTheNearness();
        filterByFilter();
        filterKeptWhileWaiting();
        visitOfAllTheNight();
        visitUpToTheLastMinute();
        cloudsRoundAVisit();
        cloudsWhileTurning();
        heightAtTheLastMinuteOfAVisit();
        moonAtAMinuteOfAVisit();
        aMinuteLaterEachTime();
        takenWhenItCanBegin();
        waitWhilePointing();
        meritOfTheHeight();
        meritOfTheRank();
        meritOfTheWait();
        meritsBelowZero();
        greatestMerits();
        smallestNumberOfSeveral();
        greaterByOne();
        onceInThePlan();
        openOnesAlone();
        fullestPlan();
        oneMinuteTooFew();
        planOnTheLastNight();
        useAtItsEdges();
        CHECKS.end();
    }

    private static void due(String call, long got, long want) {
        CHECKS.due(call, got, want);
    }

    private static void dueVisit(SkyPlan x, int index, int target, int begin, int wait, int merit) {
        CHECKS.dueEach("visit " + index, what -> x.visit(index, what), target, begin, wait, merit);
    }

    private static int addLow(SkyPlan x, int rise, int declination, int filter, int rank, int minutes) {
        int target = x.addTarget(rise, declination, filter, rank, minutes);
        x.want(target, -1000, 1, 1);
        return target;
    }

    private static void planOfNothing() {
        SkyPlan x = new SkyPlan();
        due("visits without targets", x.visits(), 0);
        CHECKS.badIndex(x, "visit(0, 0) without targets", () -> x.visit(0, 0));
        CHECKS.due("use without targets", x.use(), 0.0);
        due("observe without targets", x.observe(), 0);
        SkyPlan y = Starts.pole();
        y.addTarget(0, -90, 0, 9, 5);
        due("visits of a target that is never seen", y.visits(), 0);
        CHECKS.badIndex(y, "visit(0, 0)", () -> y.visit(0, 0));
        CHECKS.due("use", y.use(), 0.0);
        due("observe", y.observe(), 0);
        due("had", y.target(0, 8), 0);
    }

    /** "t and 2 minutes, if it points nowhere .. and 3 minutes more, if it has another filter": it has 0 at first. */
    private static void readyForTheFirstVisit() {
        for (int filter = 0; filter < 4; filter++) {
            SkyPlan x = Starts.pole();
            x.addTarget(900, 90, filter, 1, 5);
            int wait = filter == 0 ? 2 : 5;
            dueVisit(x, 0, 0, wait, wait, 200 - wait);
        }
    }

    /** "t and 1 minute and (1000 less the nearness ..) / 250 minutes", cut towards 0. */
    private static void turningByTheNearness() {
        int[][] rows = {{0, 0, 1000, 1}, {12, -41, 751, 1}, {16, -41, 750, 2}, {124, -54, 501, 2}, {0, -60, 500, 3},
            {56, -75, 251, 3}, {60, -75, 250, 4}, {336, -89, 1, 4}, {0, -90, 0, 5}, {376, -89, -1, 5},
            {656, -75, -249, 5}, {660, -75, -250, 6}, {708, -60, -499, 6}, {720, -60, -500, 7}, {700, -41, -749, 7},
            {704, -41, -750, 8}, {720, -2, -999, 8}, {720, 0, -1000, 9}};
        for (int[] row : rows) {
            for (int filter = 0; filter < 2; filter++) {
                SkyPlan x = Starts.pole();
                addLow(x, 0, 0, 0, 9, 5);
                addLow(x, row[0], row[1], filter, 1, 5);
                due("nearness", x.nearness(0, 1), row[2]);
                int wait = row[3] + 3 * filter;
                dueVisit(x, 0, 0, 2, 2, 898);
                dueVisit(x, 1, 1, 7 + wait, wait, 100 + x.height(1, 0) / 10 - wait);
            }
        }
    }

    /** 3 minutes more for each change of the filter, also back to the filter 0. */
    private static void filterByFilter() {
        for (int first = 0; first < 4; first++) {
            for (int second = 0; second < 4; second++) {
                SkyPlan x = Starts.pole();
                x.addTarget(0, 90, first, 9, 5);
                x.addTarget(0, 90, second, 5, 5);
                x.addTarget(0, 90, first, 1, 5);
                int change = first == second ? 1 : 4;
                int begin = first == 0 ? 2 : 5;
                dueVisit(x, 0, 0, begin, begin, 1000 - begin);
                dueVisit(x, 1, 1, begin + 5 + change, change, 600 - change);
                dueVisit(x, 2, 2, begin + 10 + 2 * change, change, 200 - change);
            }
        }
    }

    private static void filterKeptWhileWaiting() {
        SkyPlan x = Starts.pole();
        x.addTarget(0, 90, 3, 9, 5);
        x.addTarget(0, 90, 3, 1, 20);
        x.addTarget(0, 90, 0, 1, 20);
        x.addClouds(12, 35);
        dueVisit(x, 0, 0, 5, 5, 995);
        // taken at the minute 32: for the other one, with the same filter, it would be ready among the clouds
        dueVisit(x, 1, 2, 36, 4, 196);
        due("visits", x.visits(), 2);
    }

    /** "all of them minutes of this night" */
    private static void visitOfAllTheNight() {
        int[][] rows = {{60, 0, 58, 1}, {60, 0, 59, 0}, {60, 1, 55, 1}, {60, 1, 56, 0}, {122, 0, 120, 1}, {121, 0, 120, 0},
            {125, 3, 120, 1}, {124, 3, 120, 0}};
        for (int[] row : rows) {
            SkyPlan x = Starts.pole();
            x.setLength(row[0]);
            x.addTarget(0, 30, row[1], 9, row[2]);
            due("visits of " + row[2] + " minutes in " + row[0], x.visits(), row[3]);
        }
    }

    private static void visitUpToTheLastMinute() {
        int[] lengths = {60, 600, 900};
        for (int length : lengths) {
            SkyPlan x = Starts.pole();
            x.setLength(length);
            x.addTarget(0, 30, 0, 1, 5);
            x.addClouds(0, length - 6);
            dueVisit(x, 0, 0, length - 5, 2, 148);
            x.addClouds(length - 5, length - 5);
            due("visits in 4 minutes", x.visits(), 0);
        }
    }

    /** "can be seen at each minute of a visit": not the one before it nor the one behind it. */
    private static void cloudsRoundAVisit() {
        for (int cloud = 0; cloud < 60; cloud++) {
            SkyPlan x = Starts.pole();
            x.addTarget(0, 30, 0, 1, 10);
            x.addClouds(cloud, cloud);
            int begin = cloud < 2 || cloud > 11 ? 2 : cloud + 1;
            dueVisit(x, 0, 0, begin, 2, 148);
        }
        SkyPlan y = Starts.pole();
        y.addTarget(0, 30, 0, 1, 10);
        y.addClouds(0, 19);
        y.addClouds(30, 59);
        dueVisit(y, 0, 0, 20, 2, 148);
        y.addClouds(20, 20);
        due("visits in 9 minutes", y.visits(), 0);
        SkyPlan z = Starts.pole();
        z.addTarget(0, 30, 0, 1, 10);
        z.addClouds(0, 19);
        z.addClouds(29, 59);
        due("visits in 9 minutes", z.visits(), 0);
    }

    private static void cloudsWhileTurning() {
        SkyPlan x = Starts.pole();
        x.addTarget(0, 90, 0, 9, 5);
        x.addTarget(0, -90, 3, 1, 5);
        x.want(1, -1000, 1, 1);
        x.addClouds(0, 1);
        x.addClouds(7, 18);
        dueVisit(x, 0, 0, 2, 2, 998);
        dueVisit(x, 1, 1, 19, 12, 100 - 100 - 12);
        x.addClouds(19, 19);
        dueVisit(x, 1, 1, 20, 12, 100 - 100 - 12);
    }

    /** On the equator the height is 999 at the minutes 4 to 11 behind the angle 0, and 998 at the minute 12. */
    private static void heightAtTheLastMinuteOfAVisit() {
        int[][] rows = {{999, 10, 1}, {999, 11, 0}, {998, 11, 1}, {998, 14, 1}, {998, 15, 0}, {1000, 5, 0}};
        for (int[] row : rows) {
            SkyPlan x = Starts.equator(0);
            x.addTarget(0, 0, 0, 1, row[1]);
            x.want(0, row[0], 1, 1);
            due("height at the minute 11", x.height(0, 11), 999);
            due("height at the minute 12", x.height(0, 12), 998);
            due("height at the minute 15", x.height(0, 15), 998);
            due("visits of " + row[1] + " minutes at " + row[0], x.visits(), row[2]);
        }
        SkyPlan y = Starts.equator(1430);
        y.addTarget(3, 0, 0, 1, 8);
        y.want(0, 999, 1, 1);
        due("height at the minute 4", y.height(0, 4), 998);
        due("height at the minute 5", y.height(0, 5), 999);
        dueVisit(y, 0, 0, 5, 2, 100 + 99 - 2);
    }

    /** The moon rises at the minute 10 of this night: its height is 0 at the minute 9, and 17 then. */
    private static void moonAtAMinuteOfAVisit() {
        SkyPlan x = Starts.equator(0);
        x.setMoon(366, 0, 15);
        due("moonHeight(9)", x.moonHeight(9), 0);
        due("moonHeight(10)", x.moonHeight(10), 17);
        addLow(x, 366, 0, 0, 1, 8);
        due("height(0, 2)", x.height(0, 2), -17);
        dueVisit(x, 0, 0, 2, 2, 100 - 1 - 2);
        SkyPlan y = Starts.equator(0);
        y.setMoon(366, 0, 15);
        addLow(y, 366, 0, 0, 1, 9);
        due("visits that last into the moonlight", y.visits(), 0);
        y.setMoon(366, 0, 0);
        due("visits without light", y.visits(), 1);
    }

    /** "If there is none, t becomes 1 greater." */
    private static void aMinuteLaterEachTime() {
        for (int clear = 2; clear <= 55; clear++) {
            SkyPlan x = Starts.pole();
            x.addTarget(0, 30, 0, 1, 5);
            x.addClouds(0, clear - 1);
            dueVisit(x, 0, 0, clear, 2, 148);
        }
    }

    /** One that is ready later is taken at an earlier minute, if clouds are in the way of the others then. */
    private static void takenWhenItCanBegin() {
        SkyPlan x = Starts.pole();
        x.addTarget(0, 30, 0, 9, 5);
        x.addTarget(0, 30, 1, 1, 5);
        x.addClouds(0, 9);
        dueVisit(x, 0, 1, 10, 5, 145);
        dueVisit(x, 1, 0, 19, 4, 946);
        x.addClouds(10, 10);
        dueVisit(x, 0, 1, 11, 5, 145);
    }

    /** The telescope still points where it pointed, with its filter, when minutes have gone by. */
    private static void waitWhilePointing() {
        SkyPlan x = Starts.pole();
        x.addTarget(0, 90, 1, 9, 5);
        x.addTarget(0, 90, 1, 8, 5);
        x.addTarget(0, 0, 0, 7, 5);
        x.want(2, 0, 1, 1);
        x.addClouds(10, 29);
        x.addClouds(35, 49);
        dueVisit(x, 0, 0, 5, 5, 995);
        // from the pole to the equator in 5 minutes, and 3 more for the filter: taken at the minute 22 already
        dueVisit(x, 1, 2, 30, 8, 692);
        dueVisit(x, 2, 1, 50, 8, 892);
    }

    private static void dueMerit(int declination, int angle, int height, int merit) {
        SkyPlan x = new SkyPlan();
        int rise = (2 - 4 * angle + 1440) % 1440;
        addLow(x, rise, declination, 0, 1, 5);
        due("height(0, 2)", x.height(0, 2), height);
        dueVisit(x, 0, 0, 2, 2, merit);
    }

    /** "a tenth of its height .. (only the height is divided by 10)", cut towards 0 on both sides. */
    private static void meritOfTheHeight() {
        dueMerit(-39, 9, 9, 98);
        dueMerit(-29, 47, 10, 99);
        dueMerit(-37, 20, 19, 99);
        dueMerit(-38, 13, 20, 100);
        dueMerit(-37, 28, -9, 98);
        dueMerit(-40, 11, -10, 97);
        dueMerit(-41, 3, -19, 97);
        dueMerit(-41, 5, -20, 96);
    }

    /** A rank more counts as much as the height between 0 and 1000. */
    private static void meritOfTheRank() {
        SkyPlan x = Starts.pole();
        addLow(x, 0, 90, 0, 1, 5);
        addLow(x, 0, 0, 0, 2, 5);
        dueVisit(x, 0, 0, 2, 2, 198);
        SkyPlan y = Starts.pole();
        addLow(y, 0, 90, 0, 1, 5);
        addLow(y, 0, 1, 0, 2, 5);
        dueVisit(y, 0, 1, 2, 2, 199);
        SkyPlan z = Starts.pole();
        addLow(z, 0, 90, 0, 1, 5);
        addLow(z, 0, -1, 0, 2, 5);
        dueVisit(z, 0, 0, 2, 2, 198);
        due("merit of the other one", z.visit(1, 3), 200 - 1 - 5);
    }

    /** "less the minutes until it is ready": one minute decides between two of the same rank and height. */
    private static void meritOfTheWait() {
        SkyPlan x = Starts.pole();
        addLow(x, 0, 0, 0, 9, 5);
        addLow(x, 16, -41, 0, 5, 5);
        addLow(x, 12, -41, 0, 5, 5);
        dueVisit(x, 1, 2, 8, 1, 500 - 65 - 1);
        dueVisit(x, 2, 1, 14, 1, 500 - 65 - 1);
    }

    /** There is no least merit: 0 and less are merits too. */
    private static void meritsBelowZero() {
        SkyPlan x = Starts.pole();
        addLow(x, 0, -79, 0, 1, 5);
        due("height", x.height(0, 0), -981);
        dueVisit(x, 0, 0, 2, 2, 0);
        SkyPlan y = Starts.pole();
        addLow(y, 0, -90, 1, 1, 5);
        addLow(y, 0, -90, 0, 1, 5);
        dueVisit(y, 0, 1, 2, 2, -2);
        dueVisit(y, 1, 0, 11, 4, -4);
        SkyPlan z = Starts.pole();
        addLow(z, 0, 90, 0, 9, 5);
        addLow(z, 0, -90, 3, 1, 5);
        dueVisit(z, 1, 1, 19, 12, -12);
    }

    private static void greatestMerits() {
        SkyPlan x = Starts.pole();
        x.addTarget(0, 90, 0, 9, 5);
        x.addTarget(1439, 90, 0, 9, 5);
        dueVisit(x, 0, 0, 2, 2, 998);
        dueVisit(x, 1, 1, 8, 1, 999);
    }

    /** "of several the one with the smallest number" */
    private static void smallestNumberOfSeveral() {
        SkyPlan x = Starts.twenty(121, 5);
        for (int index = 0; index < 20; index++) {
            int wait = index == 0 ? 2 : 1;
            dueVisit(x, index, index, 2 + 6 * index, wait, 200 - wait);
        }
        SkyPlan y = Starts.pole();
        addLow(y, 0, 0, 0, 1, 5);
        addLow(y, 0, 30, 0, 4, 5);
        addLow(y, 700, 30, 0, 4, 6);
        addLow(y, 1000, 30, 0, 4, 7);
        dueVisit(y, 0, 1, 2, 2, 448);
    }

    /** A merit that is 1 greater goes before a smaller number. */
    private static void greaterByOne() {
        SkyPlan x = Starts.pole();
        addLow(x, 0, 28, 0, 4, 5);
        addLow(x, 0, 29, 0, 4, 5);
        due("height of 0", x.height(0, 0), 469);
        due("height of 1", x.height(1, 0), 484);
        dueVisit(x, 0, 1, 2, 2, 446);
        SkyPlan y = Starts.pole();
        addLow(y, 0, 41, 0, 4, 5);
        addLow(y, 0, 42, 0, 4, 5);
        addLow(y, 0, 43, 0, 4, 5);
        due("height of 1", y.height(1, 0), 668);
        due("height of 2", y.height(2, 0), 680);
        dueVisit(y, 0, 2, 2, 2, 466);
        dueVisit(y, 1, 1, 8, 1, 465);
        dueVisit(y, 2, 0, 14, 1, 464);
    }

    /** "that are not in the plan so far": once a night, however many visits it wants. */
    private static void onceInThePlan() {
        SkyPlan x = Starts.pole();
        x.setLength(900);
        x.addTarget(0, 90, 0, 9, 5);
        x.want(0, 300, 10, 1);
        due("visits", x.visits(), 1);
        x.addTarget(0, 90, 0, 1, 5);
        due("visits", x.visits(), 2);
        dueVisit(x, 1, 1, 8, 1, 199);
        due("visits, asked again", x.visits(), 2);
        due("observe", x.observe(), 2);
        due("visits of night 1", x.visits(), 1);
        due("observe", x.observe(), 1);
        due("had", x.target(0, 8), 2);
    }

    private static void openOnesAlone() {
        SkyPlan x = Starts.pole();
        x.addTarget(0, 90, 0, 9, 5);
        x.addTarget(0, 90, 0, 8, 5);
        x.want(1, 300, 2, 2);
        due("observe on night 0", x.observe(), 2);
        due("visits on night 1", x.visits(), 0);
        x.want(1, 300, 2, 1);
        dueVisit(x, 0, 1, 2, 2, 898);
        x.want(1, 300, 2, 2);
        due("visits on night 1", x.visits(), 0);
        x.want(0, 300, 2, 1);
        dueVisit(x, 0, 0, 2, 2, 998);
        x.pass(1);
        due("visits on night 2", x.visits(), 2);
    }

    /** 20 visits with 2 minutes before the first one and 1 before each other one, up to the last minute. */
    private static void fullestPlan() {
        int[] minutes = {5, 6, 43};
        for (int each : minutes) {
            int length = 2 + 20 * each + 19;
            SkyPlan x = Starts.twenty(length, each);
            due("visits", x.visits(), 20);
            dueVisit(x, 0, 0, 2, 2, 198);
            dueVisit(x, 19, 19, length - each, 1, 199);
            CHECKS.badIndex(x, "visit(20, 0)", () -> x.visit(20, 0));
            CHECKS.due("use", x.use(), (double) (20 * each) / length);
            due("observe", x.observe(), 20);
            due("visits of the next night", x.visits(), 0);
        }
    }

    private static void oneMinuteTooFew() {
        SkyPlan x = Starts.twenty(120, 5);
        due("visits", x.visits(), 19);
        CHECKS.badIndex(x, "visit(19, 0)", () -> x.visit(19, 0));
        CHECKS.due("use", x.use(), 95.0 / 120);
        due("observe", x.observe(), 19);
        due("had by the last one", x.target(19, 8), 0);
        due("visits of the next night", x.visits(), 1);
        dueVisit(x, 0, 19, 2, 2, 198);
        SkyPlan y = Starts.twenty(60, 120);
        due("visits of 120 minutes in 60", y.visits(), 0);
    }

    private static void planOnTheLastNight() {
        SkyPlan x = Starts.twenty(121, 5);
        x.pass(60);
        due("visits", x.visits(), 20);
        dueVisit(x, 19, 19, 116, 1, 199);
        CHECKS.due("use", x.use(), 100.0 / 121);
        CHECKS.badState(x, "observe", () -> x.observe());
        due("visits", x.visits(), 20);
        due("addClouds", x.addClouds(116, 116), 120);
        due("visits with clouds", x.visits(), 19);
    }

    /** "divided by the length of the night": a double, which is not cut. */
    private static void useAtItsEdges() {
        SkyPlan x = Starts.pole();
        x.addTarget(0, 30, 0, 1, 58);
        CHECKS.due("use of the fullest night", x.use(), 58.0 / 60);
        x.setLength(900);
        CHECKS.due("use of a long night", x.use(), 58.0 / 900);
        SkyPlan y = Starts.pole();
        y.addTarget(0, 30, 0, 1, 5);
        CHECKS.due("use of 5 minutes", y.use(), 5.0 / 60);
        y.setLength(900);
        CHECKS.due("use of 5 minutes in 900", y.use(), 5.0 / 900);
        y.addClouds(0, 899);
        CHECKS.due("use of a night of clouds", y.use(), 0.0);
        SkyPlan z = Starts.pole();
        z.setLength(899);
        for (int target = 0; target < 20; target++) {
            z.addTarget(0, 90, 0, 1, target < 7 ? 120 : 45);
        }
        due("visits", z.visits(), 8);
        CHECKS.due("use of 885 minutes", z.use(), 885.0 / 899);
    }
}
