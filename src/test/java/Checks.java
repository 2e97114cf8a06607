import java.util.function.IntUnaryOperator;

/** What the tests of the project share: a call's answer or exception against the one that is due. */
final class Checks {
    interface Call {
        long answer();
    }

    private int right;
    private int wrong;

    void due(String call, long got, long want) {
        judge(got == want, call + " answered " + got + ", due is " + want);
    }

    void due(String call, boolean got, boolean want) {
        judge(got == want, call + " answered " + got + ", due is " + want);
    }

    void due(String call, double got, double want) {
        judge(got == want, call + " answered " + got + ", due is " + want);
    }

    /** For what is no number: a text, or a list of them. */
    void dueText(String what, Object got, Object want) {
        judge(got.equals(want), what + " is " + got + ", due is " + want);
    }

    /** A call that tells several facts by their number, from 0 on. */
    void dueEach(String call, IntUnaryOperator fact, int... want) {
        for (int what = 0; what < want.length; what++) {
            due(call + ", " + what, fact.applyAsInt(what), want[what]);
        }
    }

    /** The checksum of these numbers. */
    static long sum(int... numbers) {
        long sum = 347;
        for (int number : numbers) {
            sum = sum * 31 + number;
        }
        return sum;
    }

    void badIndex(SkyPlan plan, String name, Call call) {
        fails(plan, name, IndexOutOfBoundsException.class, call);
    }

    void badArgument(SkyPlan plan, String name, Call call) {
        fails(plan, name, IllegalArgumentException.class, call);
    }

    void badState(SkyPlan plan, String name, Call call) {
        fails(plan, name, IllegalStateException.class, call);
    }

    /** What a call threw; it has to be thrown by a line of the program, not by the machine or the library. */
    static String nameOf(RuntimeException thrown) {
        StackTraceElement[] trace = thrown.getStackTrace();
        boolean isOurs = trace.length > 0 && trace[0].getClassName().startsWith("SkyPlan");
        return thrown.getClass().getName() + (isOurs ? "" : " from outside the program");
    }

    /** The class has to be the very one: what the machine throws has a class below it. */
    private void fails(SkyPlan plan, String name, Class<?> want, Call call) {
        long before = plan.digest();
        String got;
        try {
            got = "answered " + call.answer();
        } catch (RuntimeException thrown) {
            got = "threw " + nameOf(thrown);
        }
        judge(got.equals("threw " + want.getName()), name + " " + got + ", due is " + want.getName());
        judge(plan.digest() == before, name + " threw and changed something");
    }

    void judge(boolean isRight, String text) {
        if (isRight) {
            right++;
        } else {
            wrong++;
            System.out.println(text);
        }
    }

    /** To be called last: ends the test with exit code 1 if an answer was not as due. */
    void end() {
        System.out.println(right + " answers are as due, " + wrong + " are not");
        if (wrong != 0 || right == 0) {
            System.exit(1);
        }
    }
}
