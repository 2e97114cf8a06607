/** Objects to begin a test with. */
final class Starts {
    private Starts() {
    }

    /** Nights of 60 minutes at the pole: there each height is the sine of the declination at every minute. */
    static SkyPlan pole() {
        SkyPlan x = new SkyPlan();
        x.setSite(90, 0);
        x.setLength(60);
        return x;
    }

    /** At the pole, 20 targets of so many minutes, all of them at its zenith. */
    static SkyPlan twenty(int length, int minutes) {
        SkyPlan x = pole();
        x.setLength(length);
        for (int target = 0; target < 20; target++) {
            x.addTarget(0, 90, 0, 1, minutes);
        }
        return x;
    }

    /** A site on the equator: the height of a point with the declination 0 is the cosine of its angle. */
    static SkyPlan equator(int start) {
        SkyPlan x = new SkyPlan();
        x.setSite(0, start);
        return x;
    }

    /** Somewhere in the middle: nothing of it has the value that it has at first. */
    static SkyPlan midway() {
        SkyPlan x = new SkyPlan();
        x.setSite(-37, 1400);
        x.setLength(333);
        x.setMoon(1380, -20, 27);
        x.addTarget(1300, -30, 1, 4, 20);
        x.addTarget(100, -80, 0, 9, 45);
        x.addTarget(1439, 10, 3, 2, 7);
        x.want(0, 250, 3, 2);
        x.want(1, 100, 10, 1);
        x.want(2, 0, 5, 20);
        x.observe();
        x.pass(4);
        x.observe();
        for (int cloud = 0; cloud < 7; cloud++) {
            x.addClouds(40 * cloud + 25, 40 * cloud + 30);
        }
        return x;
    }

    /** The last night with as much as there can be: 20 targets, all of them in the plan, clouds told 8 times. */
    static SkyPlan full() {
        SkyPlan x = new SkyPlan();
        x.setSite(90, 1439);
        x.setLength(900);
        for (int target = 0; target < 20; target++) {
            x.addTarget(70 * target, 20 + target, target % 4, 1 + target % 9, 5 + target);
            x.want(target, 20 * target - 100, 10, 1);
        }
        x.pass(59);
        x.observe();
        for (int cloud = 0; cloud < 8; cloud++) {
            x.addClouds(100 * cloud + 99, 100 * cloud + 99);
        }
        return x;
    }
}
