import java.util.function.Supplier;
import java.util.function.ToIntFunction;

/** Counts the answers that are not as due, and ends a test with exit code 1 if there was one. */
final class Due {
    private final String test;
    private String about = "";
    private int wrong = 0;
    private int asked = 0;

    Due(String test) {
        this.test = test;
    }

    /** What the next lines are about: a promise, and which side of it. */
    void about(String words) {
        about = words;
    }

    void is(int want, int got) {
        asked++;
        if (got != want) {
            tell("answered " + got + ", due is " + want);
        }
    }

    /** The bits of the RANGES from UNKNOWN 0 on. */
    void ranges(NarrowingKernel k, int... bits) {
        for (int x = 0; x < bits.length; x++) {
            is(bits[x], k.range(x, 3));
        }
    }

    /** THE ANSWER from UNKNOWN 0 on. */
    void answers(NarrowingKernel k, int... numbers) {
        for (int x = 0; x < numbers.length; x++) {
            is(numbers[x], k.answer(x));
        }
    }

    /** The STEPS that were left, in order, and no more. */
    void reasons(NarrowingKernel k, int... steps) {
        for (int i = 0; i < steps.length; i++) {
            is(steps[i], k.reason(i));
        }
        is(NarrowingKernel.NONE, k.reason(steps.length));
    }

    /** The call is refused or found, and changes nothing but counts: also, if it comes twice. */
    void refused(Supplier<NarrowingKernel> world, int want, ToIntFunction<NarrowingKernel> call) {
        for (int first = 0; first < Probe.ORDERS; first++) {
            NarrowingKernel one = world.get();
            is(want, call.applyAsInt(one));
            is(want, call.applyAsInt(one));
            same(Probe.of(world.get(), 0, first), Probe.of(one, isFinding(want) ? 2 : 0, first));
        }
    }

    /** The call is answered, and changes nothing. */
    void lets(Supplier<NarrowingKernel> world, int want, ToIntFunction<NarrowingKernel> call) {
        for (int first = 0; first < Probe.ORDERS; first++) {
            NarrowingKernel one = world.get();
            is(want, call.applyAsInt(one));
            same(Probe.of(world.get(), 0, first), Probe.of(one, 0, first));
        }
    }

    /** The call is answered, and changes no more than what is told: parts of what a Probe asks. */
    void changes(Supplier<NarrowingKernel> world, int want, ToIntFunction<NarrowingKernel> call, int... parts) {
        for (int part = 0; part < Probe.ORDERS; part++) {
            boolean may = false;
            for (int told : parts) {
                may |= told == part;
            }
            NarrowingKernel one = world.get();
            is(want, call.applyAsInt(one));
            if (!may) {
                same(Probe.of(world.get(), part), Probe.of(one, part));
            }
        }
    }

    private void same(String want, String got) {
        asked++;
        if (!got.equals(want)) {
            tell("\n  changes " + want + "\n  to      " + got);
        }
    }

    private static boolean isFinding(int answer) {
        return answer <= NarrowingKernel.NULL && answer >= NarrowingKernel.SIZE;
    }

    private void tell(String what) {
        wrong++;
        StringBuilder lines = new StringBuilder();
        for (StackTraceElement frame : new Throwable().getStackTrace()) {
            if (frame.getClassName().equals(test) && !frame.getMethodName().equals("main")) {
                lines.append(' ').append(frame.getLineNumber());
            }
        }
        System.out.println(test + ", " + about + ", line" + lines + ": " + what);
    }

    void end() {
        System.out.println(test + ": " + (asked - wrong) + " of " + asked + " answers are as due");
        if (wrong != 0) {
            System.exit(1);
        }
    }
}
