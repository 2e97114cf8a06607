/**
 * What an object answers from here on: what it tells, and then what it tells behind calls that go
 * on from it. Two objects of which this is the same stand alike, also in what no call tells at
 * once (how often clouds were told). It makes less than 300 calls, of the 512 that an object has.
 */
final class Aftermath {
    private static final int[] MINUTES = {0, 30, 59};

    private final SkyPlan plan;
    private final StringBuilder told = new StringBuilder();

    private Aftermath(SkyPlan plan) {
        this.plan = plan;
    }

    static String of(SkyPlan plan) {
        Aftermath aftermath = new Aftermath(plan);
        aftermath.read();
        aftermath.tellCloudsUntilRefused();
        aftermath.goOn();
        return aftermath.told.toString();
    }

    private void read() {
        tell(plan.digest());
        tell(plan.use());
        tell(plan.light());
        for (int what = 0; what < 4; what++) {
            tell(plan.count(what));
        }
        for (int minute : MINUTES) {
            tell(plan.moonHeight(minute));
        }
        for (int target = 0; target < plan.count(0); target++) {
            tell(plan.isOpen(target));
            tell(plan.reason(target, 59));
        }
    }

    private void tellCloudsUntilRefused() {
        for (int time = 0; time < 9; time++) {
            tell(Edges.answerOf(plan, 2 * time, (x, minute) -> x.addClouds(minute, minute)));
        }
        tell(plan.digest());
    }

    private void goOn() {
        tell(Edges.answerOf(plan, 0, (x, value) -> x.observe()));
        tell(plan.digest());
        tell(Edges.answerOf(plan, 1, (x, nights) -> x.pass(nights)));
        tell(Edges.answerOf(plan, 7, (x, rise) -> x.addTarget(rise, 20, 1, 2, 30)));
        tell(plan.digest());
    }

    private void tell(Object answer) {
        told.append(answer).append(' ');
    }
}
