/** Three targets through a week of nights, the first of them under clouds. */
public final class Example {
    public static void main(String[] args) {
        SkyPlan plan = new SkyPlan();
        plan.setSite(50, 0);                             // latitude, start of the sky clock
        plan.setLength(480);                             // minutes of a night
        int light = plan.setMoon(900, -10, 3);           // rise number, declination, age
        System.out.println("light of the moon: " + light);

        int first = plan.addTarget(200, 20, 1, 9, 45);   // rise number, declination, filter, rank, minutes
        plan.addTarget(600, 40, 0, 5, 30);
        plan.addTarget(300, 80, 0, 3, 60);
        plan.want(first, 300, 3, 2);                     // least height, visits, nights from one to the next

        int clear = plan.addClouds(0, 120);              // from a minute to a minute, both with them
        System.out.println("minutes without clouds: " + clear);
        System.out.println("target 1 can be seen from the minute " + plan.window(1, 0) + " on");

        for (int night = 0; night < 5; night++) {
            tellPlan(plan);
            plan.observe();                              // does the plan; then the next night begins
        }
        System.out.println("visits in all: " + plan.count(3) + ", light now: " + plan.light());

        try {
            plan.pass(60);
        } catch (IllegalArgumentException tooFar) {
            System.out.println("night 60 is the last one, and it is night " + plan.night() + " already");
        }
        System.out.println("night " + plan.pass(2) + ", checksum " + plan.digest());
    }

    private static void tellPlan(SkyPlan plan) {
        System.out.println("night " + plan.night() + ", use " + plan.use() + ":");
        for (int index = 0; index < plan.visits(); index++) {
            System.out.println("  target " + plan.visit(index, 0) + " from the minute " + plan.visit(index, 1)
                    + " on, merit " + plan.visit(index, 3));
        }
    }
}
