import java.util.ArrayList;
import java.util.List;

/**
 * The document once more, word by word and without any row that is kept: slow, and written apart
 * from SkyPlan, so that both can be compared on long runs.
 */
final class NaivePlanner {
    static final int[] LEAST = {0, -90, 0, 1, -1000, 5, 1, 1};
    static final int[] GREATEST = {1439, 90, 3, 9, 1000, 120, 10, 20};

    int latitude = 50;
    int start = 0;
    int length = 600;
    int night = 0;
    int moonRise = 0;
    int moonDeclination = 0;
    int moonAge = 0;
    final List<int[]> clouds = new ArrayList<>();
    final List<int[]> targets = new ArrayList<>();

    private static IllegalArgumentException argument() {
        return new IllegalArgumentException();
    }

    private static void need(boolean isRight) {
        if (!isRight) {
            throw argument();
        }
    }

    private static void needIndex(boolean isRight) {
        if (!isRight) {
            throw new IndexOutOfBoundsException();
        }
    }

    private static boolean fits(int kind, int value) {
        return LEAST[kind] <= value && value <= GREATEST[kind];
    }

    int setSite(int newLatitude, int newStart) {
        need(-90 <= newLatitude && newLatitude <= 90 && 0 <= newStart && newStart <= 1439);
        int before = latitude;
        latitude = newLatitude;
        start = newStart;
        return before;
    }

    int setLength(int newLength) {
        need(60 <= newLength && newLength <= 900);
        int before = length;
        length = newLength;
        return before;
    }

    int setMoon(int rise, int declination, int age) {
        need(fits(0, rise) && fits(1, declination) && 0 <= age && age <= 29);
        moonRise = rise;
        moonDeclination = declination;
        moonAge = age;
        return light();
    }

    int addClouds(int from, int to) {
        need(0 <= from && from <= to && to < length);
        if (clouds.size() == 8) {
            throw new IllegalStateException();
        }
        clouds.add(new int[] {from, to});
        int clear = 0;
        for (int time = 0; time < length; time++) {
            if (!isClouded(time)) {
                clear++;
            }
        }
        return clear;
    }

    boolean isClouded(int time) {
        return clouds.stream().anyMatch(told -> told[0] <= time && time <= told[1]);
    }

    int sine(int degrees) {
        need(-10000 <= degrees && degrees <= 10000);
        return sin(degrees);
    }

    static int sin(int degrees) {
        int d = degrees;
        while (d < 0) {
            d += 360;
        }
        while (d > 360) {
            d -= 360;
        }
        return d <= 180 ? 4000 * d * (180 - d) / (40500 - d * (180 - d)) : -sin(d - 180);
    }

    static int cos(int degrees) {
        return sin(degrees + 90);
    }

    int addTarget(int rise, int declination, int filter, int rank, int minutes) {
        need(fits(0, rise) && fits(1, declination) && fits(2, filter) && fits(3, rank) && fits(5, minutes));
        if (targets.size() == 20) {
            throw new IllegalStateException();
        }
        targets.add(new int[] {rise, declination, filter, rank, 300, minutes, 1, 1, 0, -1});
        return targets.size() - 1;
    }

    int[] found(int target) {
        needIndex(0 <= target && target < targets.size());
        return targets.get(target);
    }

    int want(int target, int height, int visits, int nights) {
        int[] x = found(target);
        need(fits(4, height) && fits(6, visits) && fits(7, nights));
        int before = x[6];
        x[4] = height;
        x[6] = visits;
        x[7] = nights;
        return before;
    }

    int target(int target, int what) {
        int[] x = found(target);
        needIndex(0 <= what && what <= 9);
        return x[what];
    }

    int heightOf(int rise, int declination, int time) {
        int clock = (start + 4 * night + time) % 1440;
        int angle = (clock - rise + 1440) % 1440 / 4;
        return (sin(latitude) * sin(declination) + cos(latitude) * cos(declination) / 1000 * cos(angle)) / 1000;
    }

    static int nearnessOf(int rise, int declination, int otherRise, int otherDeclination) {
        int g = (rise > otherRise ? rise - otherRise : otherRise - rise) / 4;
        return (sin(declination) * sin(otherDeclination)
                + cos(declination) * cos(otherDeclination) / 1000 * cos(g)) / 1000;
    }

    int height(int target, int time) {
        int[] x = found(target);
        need(0 <= time && time < length);
        return heightOf(x[0], x[1], time);
    }

    int nearness(int a, int b) {
        return nearnessOf(found(a)[0], found(a)[1], found(b)[0], found(b)[1]);
    }

    int moonNearness(int target) {
        return nearnessOf(found(target)[0], found(target)[1], moonRise, moonDeclination);
    }

    int moonHeight(int time) {
        need(0 <= time && time < length);
        return heightOf(moonRise, moonDeclination, time);
    }

    int light() {
        int difference = moonAge - 15;
        return 100 - 100 * (difference < 0 ? -difference : difference) / 15;
    }

    int reason(int target, int time) {
        int[] x = found(target);
        need(0 <= time && time < length);
        if (isClouded(time)) {
            return 1;
        }
        if (heightOf(x[0], x[1], time) < x[4]) {
            return 2;
        }
        return moonHeight(time) <= 0 || moonNearness(target) <= 1000 - 5 * light() ? 0 : 3;
    }

    boolean canBegin(int target, int time) {
        int minutes = found(target)[5];
        if (time + minutes > length) {
            return false;
        }
        for (int minute = time; minute < time + minutes; minute++) {
            if (reason(target, minute) != 0) {
                return false;
            }
        }
        return true;
    }

    int window(int target, int what) {
        int[] x = found(target);
        needIndex(0 <= what && what <= 4);
        int first = -1;
        int last = -1;
        int seen = 0;
        int highest = 0;
        int begin = -1;
        for (int time = 0; time < length; time++) {
            if (reason(target, time) == 0) {
                first = first == -1 ? time : first;
                last = time;
                seen++;
            }
            if (heightOf(x[0], x[1], time) > heightOf(x[0], x[1], highest)) {
                highest = time;
            }
            if (what == 4 && begin == -1 && canBegin(target, time)) {
                begin = time;
            }
        }
        return new int[] {first, last, seen, highest, begin}[what];
    }

    boolean isOpen(int target) {
        int[] x = found(target);
        return x[8] < x[6] && (x[9] == -1 || night - x[9] >= x[7]);
    }

    int count(int what) {
        needIndex(0 <= what && what <= 3);
        int open = 0;
        int full = 0;
        int had = 0;
        for (int target = 0; target < targets.size(); target++) {
            int[] x = found(target);
            open += isOpen(target) ? 1 : 0;
            full += x[8] >= x[6] ? 1 : 0;
            had += x[8];
        }
        return new int[] {targets.size(), open, full, had}[what];
    }

    List<int[]> plan() {
        List<int[]> plan = new ArrayList<>();
        List<Integer> taken = new ArrayList<>();
        int[] pointed = null;
        int filter = 0;
        int t = 0;
        while (t < length) {
            int[] best = null;
            for (int target = 0; target < targets.size(); target++) {
                int[] x = found(target);
                int ready = pointed == null ? t + 2
                        : t + 1 + (1000 - nearnessOf(pointed[0], pointed[1], x[0], x[1])) / 250;
                ready += x[2] != filter ? 3 : 0;
                if (isOpen(target) && !taken.contains(target) && canBegin(target, ready)) {
                    int merit = 100 * x[3] + heightOf(x[0], x[1], ready) / 10 - (ready - t);
                    if (best == null || merit > best[3]) {
                        best = new int[] {target, ready, ready - t, merit};
                    }
                }
            }
            if (best == null) {
                t++;
            } else {
                plan.add(best);
                taken.add(best[0]);
                pointed = found(best[0]);
                filter = pointed[2];
                t = best[1] + pointed[5];
            }
        }
        return plan;
    }

    int visits() {
        return plan().size();
    }

    int visit(int index, int what) {
        List<int[]> plan = plan();
        needIndex(0 <= index && index < plan.size() && 0 <= what && what <= 3);
        return plan.get(index)[what];
    }

    double use() {
        int minutes = 0;
        for (int[] visit : plan()) {
            minutes += found(visit[0])[5];
        }
        return (double) minutes / length;
    }

    int observe() {
        if (night == 60) {
            throw new IllegalStateException();
        }
        List<int[]> plan = plan();
        for (int[] visit : plan) {
            found(visit[0])[8]++;
            found(visit[0])[9] = night;
        }
        beginNight();
        return plan.size();
    }

    int pass(int nights) {
        need(1 <= nights && nights <= 60 && night + nights <= 60);
        for (int passed = 0; passed < nights; passed++) {
            beginNight();
        }
        return night;
    }

    private void beginNight() {
        night++;
        moonRise = (moonRise + 49) % 1440;
        moonAge = moonAge == 29 ? 0 : moonAge + 1;
        clouds.clear();
    }

    long digest() {
        List<Integer> told = new ArrayList<>(List.of(night, length, latitude, start));
        told.addAll(List.of(moonRise, moonDeclination, moonAge, targets.size()));
        for (int target = 0; target < targets.size(); target++) {
            for (int what = 0; what <= 9; what++) {
                told.add(target(target, what));
            }
            for (int what = 0; what <= 4; what++) {
                told.add(window(target, what));
            }
        }
        List<int[]> plan = plan();
        told.add(plan.size());
        for (int[] visit : plan) {
            for (int fact : visit) {
                told.add(fact);
            }
        }
        long d = 347;
        for (int x : told) {
            d = d * 31 + x;
        }
        return d;
    }
}
