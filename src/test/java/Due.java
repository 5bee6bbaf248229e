import java.util.function.Supplier;
import java.util.function.ToLongFunction;

/** Counts the calls of a test, and prints each whose answer is not the one that is due. */
final class Due {
    private final String test;
    private int asked = 0;
    private int wrong = 0;

    Due(String test) {
        this.test = test;
    }

    void is(String call, long got, long want) {
        same(call, String.valueOf(got), String.valueOf(want));
    }

    void is(String call, boolean got, boolean want) {
        same(call, String.valueOf(got), String.valueOf(want));
    }

    void same(String call, String got, String want) {
        asked++;
        if (!got.equals(want)) {
            wrong++;
            System.out.println(test + ": " + call + " answered " + got + ", due is " + want);
        }
    }

    /** The call throws just this exception, and leaves an object that answers as one without the call. */
    void fails(String call, Class<? extends RuntimeException> want, Supplier<RelayStakes> made, ToLongFunction<RelayStakes> toCall) {
        RelayStakes x = made.get();
        same(call, Answer.of(() -> toCall.applyAsLong(x)), "throws." + want.getSimpleName());
        same(call + ", and all after it", Observed.all(x), Observed.all(made.get()));
    }

    /** A call that is at an edge of what is allowed. */
    void answers(String call, long want, Supplier<RelayStakes> made, ToLongFunction<RelayStakes> toCall) {
        RelayStakes x = made.get();
        same(call, Answer.of(() -> toCall.applyAsLong(x)), String.valueOf(want));
    }

    void end() {
        System.out.println(test + ": " + asked + " asked, " + wrong + " wrong");
        if (wrong != 0 || asked == 0) {
            System.exit(1);
        }
    }
}
