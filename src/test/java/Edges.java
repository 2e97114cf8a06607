/** Calls at an edge of what the document lets through, each on an object that is made for it alone. */
final class Edges {
    static final Class<?> BAD_ARGUMENT = IllegalArgumentException.class;
    static final Class<?> BAD_INDEX = IndexOutOfBoundsException.class;
    static final Class<?> BAD_STATE = IllegalStateException.class;

    /** Makes an object; each time it is called it makes the same calls. */
    interface Start {
        SkyPlan make();
    }

    /** A call of the face with one value to try in it. */
    interface Call {
        Object answer(SkyPlan x, int value);
    }

    private final Checks checks;

    Edges(Checks checks) {
        this.checks = checks;
    }

    static String answerOf(SkyPlan x, int value, Call call) {
        try {
            return String.valueOf(call.answer(x, value));
        } catch (RuntimeException thrown) {
            return Checks.nameOf(thrown);
        }
    }

    void letsThrough(String name, Start start, int value, Call call) {
        String got = answerOf(start.make(), value, call);
        checks.judge(!got.contains("Exception"), name + " with " + value + " threw " + got);
    }

    /** The call throws this very exception, and the object goes on like one that was never called so. */
    void refuses(String name, Class<?> due, Start start, int value, Call call) {
        SkyPlan x = start.make();
        String got = answerOf(x, value, call);
        checks.judge(got.equals(due.getName()), name + " with " + value + ": " + got + ", due is " + due.getName());
        boolean isUnchanged = Aftermath.of(x).equals(Aftermath.of(start.make()));
        checks.judge(isUnchanged, name + " with " + value + " threw and changed something");
    }

    void refusesAll(String name, Class<?> due, Start start, int[] values, Call call) {
        for (int value : values) {
            refuses(name, due, start, value, call);
        }
    }

    /** The least and the greatest value are let through; those beside them and far away are refused. */
    void range(String name, Class<?> due, int least, int greatest, Start start, Call call) {
        letsThrough(name, start, least, call);
        letsThrough(name, start, greatest, call);
        refusesAll(name, due, start, outside(least, greatest), call);
    }

    static int[] outside(int least, int greatest) {
        return new int[] {least - 1, greatest + 1, Integer.MIN_VALUE, Integer.MIN_VALUE + 1, Integer.MAX_VALUE - 1,
            Integer.MAX_VALUE};
    }
}
