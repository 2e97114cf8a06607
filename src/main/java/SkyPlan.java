import java.util.ArrayList;
import java.util.Arrays;

/** A planner for the nights of a telescope. */
public final class SkyPlan {
    private static final int DAY = 1440;
    private static final int CLOCK_PER_NIGHT = 4;
    private static final int MOON_PER_NIGHT = 49;
    private static final int MOON_AGES = 30;
    private static final int LAST_NIGHT = 60;
    private static final int LONGEST_NIGHT = 900;
    private static final int MOST_CLOUDS = 8;
    private static final int MOST_TARGETS = 20;
    private static final int TARGET_FACTS = 10;
    private static final int WINDOW_FACTS = 5;
    private static final int VISIT_FACTS = 4;
    // merits may be negative, but none is as small as this
    private static final int NO_MERIT = -1000000;

    // The point straight above the site at the minute 0 of the night 0: its declination is the
    // latitude, its rise number the start. So a height is worked out like a nearness.
    private Point zenith = new Point(0, 50);
    private Point moon = new Point(0, 0);
    private int moonAge;
    private int length = 600;
    private int night;
    private final Clouds clouds = new Clouds();
    private final ArrayList<Target> targets = new ArrayList<>();
    private final Plan plan = new Plan();

    public SkyPlan() {
    }

    // ---- site, moon, clouds

    public int setSite(int latitude, int start) throws IllegalArgumentException {
        if (!isWithin(latitude, -90, 90) || !isWithin(start, 0, DAY - 1)) {
            throw new IllegalArgumentException("the latitude is -90 to 90, the start 0 to 1439");
        }
        int before = zenith.declination;
        zenith = new Point(start, latitude);
        forgetNight();
        return before;
    }

    public int setLength(int length) throws IllegalArgumentException {
        if (!isWithin(length, 60, LONGEST_NIGHT)) {
            throw new IllegalArgumentException("the length is 60 to 900");
        }
        int before = this.length;
        this.length = length;
        forgetNight();
        return before;
    }

    public int setMoon(int rise, int declination, int age) throws IllegalArgumentException {
        if (!isPoint(rise, declination) || !isWithin(age, 0, MOON_AGES - 1)) {
            throw new IllegalArgumentException("the moon is a point of the sky with an age of 0 to 29");
        }
        moon = new Point(rise, declination);
        moonAge = age;
        forgetNight();
        return moonLight();
    }

    public int addClouds(int from, int to) throws IllegalArgumentException, IllegalStateException {
        if (from < 0 || from > to || to >= length) {
            throw new IllegalArgumentException("clouds go from a minute of the night to one not before it");
        }
        if (clouds.told >= MOST_CLOUDS) {
            throw new IllegalStateException("clouds were told 8 times");
        }
        clouds.tell(from, to);
        forgetNight();
        return clearMinutes();
    }

    public int sine(int degrees) throws IllegalArgumentException {
        if (!isWithin(degrees, -10000, 10000)) {
            throw new IllegalArgumentException("the degrees are -10000 to 10000");
        }
        return sineOf(degrees);
    }

    // ---- targets

    public int addTarget(int rise, int declination, int filter, int rank, int minutes)
            throws IllegalArgumentException, IllegalStateException {
        if (!isPoint(rise, declination) || !isWithin(filter, 0, 3) || !isWithin(rank, 1, 9)
                || !isWithin(minutes, 5, 120)) {
            throw new IllegalArgumentException("no target is like this");
        }
        if (targets.size() >= MOST_TARGETS) {
            throw new IllegalStateException("there are 20 targets");
        }
        int number = targets.size();
        targets.add(new Target(number, new Point(rise, declination), filter, rank, minutes));
        plan.stands = false;
        return number;
    }

    public int want(int target, int height, int visits, int nights)
            throws IndexOutOfBoundsException, IllegalArgumentException {
        Target found = findTarget(target);
        if (!isWithin(height, -1000, 1000) || !isWithin(visits, 1, 10) || !isWithin(nights, 1, 20)) {
            throw new IllegalArgumentException("a target can't want this");
        }
        int before = found.wanted;
        found.least = height;
        found.wanted = visits;
        found.gap = nights;
        found.outlook.stands = false;
        plan.stands = false;
        return before;
    }

    public int target(int target, int what) throws IndexOutOfBoundsException {
        Target found = findTarget(target);
        checkWhat(what, TARGET_FACTS);
        return found.fact(what);
    }

    public int height(int target, int time) throws IndexOutOfBoundsException, IllegalArgumentException {
        Target found = findTarget(target);
        checkMinute(time);
        return heightOf(found.place, time);
    }

    public int nearness(int a, int b) throws IndexOutOfBoundsException {
        return nearnessOf(findTarget(a).place, findTarget(b).place);
    }

    public int moonNearness(int target) throws IndexOutOfBoundsException {
        return nearnessOf(findTarget(target).place, moon);
    }

    public int moonHeight(int time) throws IllegalArgumentException {
        checkMinute(time);
        return heightOf(moon, time);
    }

    public int reason(int target, int time) throws IndexOutOfBoundsException, IllegalArgumentException {
        Target found = findTarget(target);
        checkMinute(time);
        return reasonAgainst(found, time, heightOf(found.place, time));
    }

    public int window(int target, int what) throws IndexOutOfBoundsException {
        Target found = findTarget(target);
        checkWhat(what, WINDOW_FACTS);
        survey(found);
        return found.outlook.fact(what);
    }

    public boolean isOpen(int target) throws IndexOutOfBoundsException {
        return findTarget(target).isOpenOn(night);
    }

    public int count(int what) throws IndexOutOfBoundsException {
        checkWhat(what, 4);
        int sum = 0;
        for (int number = 0; number < targets.size(); number++) {
            sum += share(targets.get(number), what);
        }
        return sum;
    }

    // ---- plans and nights

    public int visits() {
        settlePlan();
        return plan.size;
    }

    public int visit(int index, int what) throws IndexOutOfBoundsException {
        settlePlan();
        if (index < 0 || index >= plan.size) {
            throw new IndexOutOfBoundsException("there is no such visit");
        }
        checkWhat(what, VISIT_FACTS);
        return plan.rows[index][what];
    }

    public double use() {
        settlePlan();
        return (double) plan.minutes / length;
    }

    public int observe() throws IllegalStateException {
        if (night >= LAST_NIGHT) {
            throw new IllegalStateException("it is the last night");
        }
        settlePlan();
        int visits = plan.size;
        for (int number = 0; number < targets.size(); number++) {
            targets.get(number).takeVisit(night);
        }
        beginNextNight();
        return visits;
    }

    public int pass(int nights) throws IllegalArgumentException {
        if (!isWithin(nights, 1, LAST_NIGHT - night)) {
            throw new IllegalArgumentException("the nights are 1 to 60, and night 60 is the last one");
        }
        for (int passed = 0; passed < nights; passed++) {
            beginNextNight();
        }
        return night;
    }

    public int night() {
        return night;
    }

    public int light() {
        return moonLight();
    }

    public long digest() {
        settlePlan();
        long sum = 347;
        sum = blend(sum, night);
        sum = blend(sum, length);
        sum = blend(sum, zenith.declination);
        sum = blend(sum, zenith.rise);
        sum = blend(sum, moon.rise);
        sum = blend(sum, moon.declination);
        sum = blend(sum, moonAge);
        return blendPlan(blendTargets(sum));
    }

    // ---- what a call may ask

    private static boolean isWithin(int value, int least, int greatest) {
        return value >= least && value <= greatest;
    }

    private static boolean isPoint(int rise, int declination) {
        return isWithin(rise, 0, DAY - 1) && isWithin(declination, -90, 90);
    }

    private Target findTarget(int number) {
        if (number < 0 || number >= targets.size()) {
            throw new IndexOutOfBoundsException("there is no such target");
        }
        return targets.get(number);
    }

    private void checkMinute(int time) {
        if (!isWithin(time, 0, length - 1)) {
            throw new IllegalArgumentException("the time is no minute of the night");
        }
    }

    private static void checkWhat(int what, int kinds) {
        if (what < 0 || what >= kinds) {
            throw new IndexOutOfBoundsException("this can't be told");
        }
    }

    // ---- the sky

    private static int sineOf(int degrees) {
        int turned = (degrees % 360 + 360) % 360;
        int half = turned % 180;
        int arc = half * (180 - half);
        int divisor = 40500 - arc;
        // the arc is at most 8100; a divisor is looked at all the same before it divides
        int size = divisor > 0 ? 4000 * arc / divisor : 0;
        return turned < 180 ? size : -size;
    }

    /** The formula that heights and nearnesses share, with the cosine of the angle between both points. */
    private static int closeness(Point one, Point other, int cosine) {
        return (one.sine * other.sine + one.cosine * other.cosine / 1000 * cosine) / 1000;
    }

    private static int nearnessOf(Point one, Point other) {
        int angle = Math.abs(one.rise - other.rise) / 4;
        return closeness(one, other, sineOf(angle + 90));
    }

    private int heightOf(Point point, int time) {
        int clock = (zenith.rise + CLOCK_PER_NIGHT * night + time) % DAY;
        int angle = (clock - point.rise + DAY) % DAY / 4;
        return closeness(zenith, point, sineOf(angle + 90));
    }

    private int moonLight() {
        return 100 - 100 * Math.abs(moonAge - 15) / 15;
    }

    private int clearMinutes() {
        int clear = 0;
        for (int time = 0; time < length; time++) {
            clear += clouds.cover(time) ? 0 : 1;
        }
        return clear;
    }

    /** The number of the first reason why a target can't be seen from its height, 0 if it can. */
    private int reasonAgainst(Target target, int time, int height) {
        if (clouds.cover(time)) {
            return 1;
        }
        if (height < target.least) {
            return 2;
        }
        boolean nearMoon = nearnessOf(target.place, moon) > 1000 - 5 * moonLight();
        return nearMoon && heightOf(moon, time) > 0 ? 3 : 0;
    }

    /** Brings the outlook of a target up to date, from the last minute to the first one. */
    private void survey(Target target) {
        if (target.outlook.stands) {
            return;
        }
        target.outlook.clear();
        int run = 0;
        for (int time = length - 1; time >= 0; time--) {
            int height = heightOf(target.place, time);
            run = reasonAgainst(target, time, height) == 0 ? run + 1 : 0;
            target.outlook.noteHeight(time, height);
            target.outlook.noteRun(time, run, target.minutes);
        }
        target.outlook.stands = true;
    }

    /** What one target adds to a count. */
    private int share(Target target, int what) {
        switch (what) {
            case 0:
                return 1;
            case 1:
                return target.isOpenOn(night) ? 1 : 0;
            case 2:
                return target.had >= target.wanted ? 1 : 0;
            default:
                return target.had;
        }
    }

    // ---- the plan

    /** Makes the plan of this night, if what it was made from has changed since. */
    private void settlePlan() {
        if (plan.stands) {
            return;
        }
        plan.clear();
        for (int number = 0; number < targets.size(); number++) {
            Target each = targets.get(number);
            each.planned = false;
            survey(each);
        }
        int time = 0;
        while (time < length) {
            // the greater of both, so that the time goes on whatever was taken
            time = Math.max(time + 1, takeBest(time));
        }
        plan.stands = true;
    }

    /** Puts the best visit into the plan; the minute behind it, or the same one if there is none. */
    private int takeBest(int time) {
        Target best = null;
        int bestMerit = NO_MERIT;
        for (int number = 0; number < targets.size(); number++) {
            Target each = targets.get(number);
            int merit = meritAt(each, time);
            if (merit > bestMerit) {
                best = each;
                bestMerit = merit;
            }
        }
        return best == null ? time : plan.take(best, time, bestMerit);
    }

    /** The merit of a target for a visit that is taken at a minute, NO_MERIT if it can't be. */
    private int meritAt(Target target, int time) {
        if (target.planned || !target.isOpenOn(night)) {
            return NO_MERIT;
        }
        int wait = plan.minutesUntilReady(target);
        if (!target.outlook.lasts(time + wait, target.minutes)) {
            return NO_MERIT;
        }
        return 100 * target.rank + heightOf(target.place, time + wait) / 10 - wait;
    }

    private void beginNextNight() {
        night++;
        moon = new Point((moon.rise + MOON_PER_NIGHT) % DAY, moon.declination);
        moonAge = (moonAge + 1) % MOON_AGES;
        clouds.told = 0;
        forgetNight();
    }

    /** To be called when anything of the sky of this night has changed. */
    private void forgetNight() {
        for (int number = 0; number < targets.size(); number++) {
            targets.get(number).outlook.stands = false;
        }
        plan.stands = false;
    }

    // ---- the checksum

    private static long blend(long sum, int number) {
        return sum * 31 + number;
    }

    private long blendTargets(long before) {
        long sum = blend(before, targets.size());
        for (int number = 0; number < targets.size(); number++) {
            Target each = targets.get(number);
            for (int what = 0; what < TARGET_FACTS; what++) {
                sum = blend(sum, each.fact(what));
            }
            for (int what = 0; what < WINDOW_FACTS; what++) {
                sum = blend(sum, each.outlook.fact(what));
            }
        }
        return sum;
    }

    private long blendPlan(long before) {
        long sum = blend(before, plan.size);
        for (int index = 0; index < plan.size; index++) {
            for (int what = 0; what < VISIT_FACTS; what++) {
                sum = blend(sum, plan.rows[index][what]);
            }
        }
        return sum;
    }

    /** A point of the sky; sine and cosine are those of its declination. */
    private static final class Point {
        final int rise;
        final int declination;
        final int sine;
        final int cosine;

        Point(int rise, int declination) {
            this.rise = rise;
            this.declination = declination;
            this.sine = sineOf(declination);
            this.cosine = sineOf(declination + 90);
        }
    }

    /** The clouds of one night, as they were told: a later change of its length may uncover some. */
    private static final class Clouds {
        final int[] from = new int[MOST_CLOUDS];
        final int[] to = new int[MOST_CLOUDS];
        int told;

        void tell(int first, int last) {
            if (told >= 0 && told < MOST_CLOUDS) {
                from[told] = first;
                to[told] = last;
                told++;
            }
        }

        boolean cover(int time) {
            for (int index = 0; index < told && index < MOST_CLOUDS; index++) {
                if (from[index] <= time && time <= to[index]) {
                    return true;
                }
            }
            return false;
        }
    }

    /** A target, what it wants and what it has had. */
    private static final class Target {
        final int number;
        final Point place;
        final int filter;
        final int rank;
        final int minutes;
        final Outlook outlook = new Outlook();
        int least = 300;
        int wanted = 1;
        int gap = 1;
        int had;
        int latest = -1;
        boolean planned;

        Target(int number, Point place, int filter, int rank, int minutes) {
            this.number = number;
            this.place = place;
            this.filter = filter;
            this.rank = rank;
            this.minutes = minutes;
        }

        boolean isOpenOn(int night) {
            return had < wanted && (had == 0 || night - latest >= gap);
        }

        /** Does the visit that the plan of a night has for it, if there is one. */
        void takeVisit(int night) {
            if (planned) {
                had++;
                latest = night;
            }
        }

        int fact(int what) {
            switch (what) {
                case 0:
                    return place.rise;
                case 1:
                    return place.declination;
                case 2:
                    return filter;
                case 3:
                    return rank;
                case 4:
                    return least;
                case 5:
                    return minutes;
                case 6:
                    return wanted;
                case 7:
                    return gap;
                case 8:
                    return had;
                default:
                    return latest;
            }
        }
    }

    /** What this night offers to a target; it is noted from the last minute to the first one. */
    private static final class Outlook {
        // for each minute, at how many minutes on end from there on the target can be seen
        final int[] runs = new int[LONGEST_NIGHT];
        boolean stands;
        int first;
        int last;
        int seen;
        int highest;
        int top;
        int begin;

        void clear() {
            Arrays.fill(runs, 0);
            first = -1;
            last = -1;
            seen = 0;
            highest = -1;
            top = 0;
            begin = -1;
        }

        void noteHeight(int time, int height) {
            if (highest < 0 || height >= top) {
                highest = time;
                top = height;
            }
        }

        void noteRun(int time, int run, int minutes) {
            if (run > 0 && time >= 0 && time < runs.length) {
                runs[time] = run;
                first = time;
                last = last < 0 ? time : last;
                seen++;
                begin = run >= minutes ? time : begin;
            }
        }

        boolean lasts(int time, int minutes) {
            return time >= 0 && time < runs.length && runs[time] >= minutes;
        }

        int fact(int what) {
            switch (what) {
                case 0:
                    return first;
                case 1:
                    return last;
                case 2:
                    return seen;
                case 3:
                    return highest;
                default:
                    return begin;
            }
        }
    }

    /** The plan of one night, in its order: a row has what visit() tells. */
    private static final class Plan {
        final int[][] rows = new int[MOST_TARGETS][VISIT_FACTS];
        boolean stands;
        int size;
        int minutes;
        Target pointed;

        void clear() {
            size = 0;
            minutes = 0;
            pointed = null;
        }

        /** The telescope has the filter of where it points, and the filter 0 as long as that is nowhere. */
        int minutesUntilReady(Target next) {
            int filter = pointed == null ? 0 : pointed.filter;
            int turning = pointed == null ? 2 : 1 + (1000 - nearnessOf(pointed.place, next.place)) / 250;
            return next.filter == filter ? turning : turning + 3;
        }

        /** Takes a visit at a minute; the minute behind it. */
        int take(Target target, int time, int merit) {
            int wait = minutesUntilReady(target);
            if (size >= 0 && size < rows.length) {
                rows[size][0] = target.number;
                rows[size][1] = time + wait;
                rows[size][2] = wait;
                rows[size][3] = merit;
                size++;
                minutes += target.minutes;
                target.planned = true;
                pointed = target;
            }
            return time + wait + target.minutes;
        }
    }
}
