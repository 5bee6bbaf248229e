import java.util.function.Supplier;
import java.util.function.ToLongFunction;

/** Counts the calls of a test, and prints each whose answer is not the one that is due. */
final class Due {
    private final String test;
    private String under = "";
    private int asked = 0;
    private int wrong = 0;

    Due(String test) {
        this.test = test;
    }

    /** What follows is printed with these words ahead of it. */
    void under(String words) {
        under = words + ": ";
    }

    int asked() {
        return asked;
    }

    void is(String call, long got, long want) {
        same(call, String.valueOf(got), String.valueOf(want));
    }

    void is(String call, boolean got, boolean want) {
        same(call, String.valueOf(got), String.valueOf(want));
    }

    void same(String call, String got, String want) {
        asked++;
        if (!got.equals(want)) {
            wrong++;
            System.out.println(test + ": " + under + call + " answered " + got + ", due is " + want);
        }
    }

    /** The call throws just this exception, and leaves an object that answers as one without the call. */
    void fails(String call, Class<? extends RuntimeException> want, Supplier<RelayStakes> made, ToLongFunction<RelayStakes> toCall) {
        RelayStakes x = made.get();
        same(call, Answer.of(() -> toCall.applyAsLong(x)), "throws." + want.getSimpleName());
        same(call + ", and all after it", Observed.all(x), Observed.all(made.get()));
    }

    /** The way of this message has just these nodes. */
    void way(String when, RelayStakes x, int message, int... want) {
        for (int place = 0; place < want.length; place++) {
            is(when + ": way(" + message + ", " + place + ")", x.way(message, place), want[place]);
        }
        is(when + ": way(" + message + "), behind the last", x.way(message, want.length), RelayStakes.NONE);
    }

    /** A call that is at an edge of what is allowed. */
    void answers(String call, long want, Supplier<RelayStakes> made, ToLongFunction<RelayStakes> toCall) {
        RelayStakes x = made.get();
        same(call, Answer.of(() -> toCall.applyAsLong(x)), String.valueOf(want));
    }

    /** A call whose argument has a range: it runs at both ends of it, and throws, changing nothing, on both sides of it. */
    void range(String call, int least, int most, Class<? extends RuntimeException> want, Supplier<RelayStakes> made, Of toCall) {
        for (int number : new int[] {least, Math.min(least + 1, most), Math.max(most - 1, least), most}) {
            String got = Answer.of(() -> toCall.at(made.get(), number));
            same(call + " with " + number + " throws", String.valueOf(got.startsWith("throws.")), "false");
        }
        for (int number : new int[] {Integer.MIN_VALUE, least - 1, most + 1, Integer.MAX_VALUE}) {
            fails(call + " with " + number, want, made, x -> toCall.at(x, number));
        }
    }

    /** A call of two nodes, of as many as there are: it throws without one of them, of either. */
    void noSuchOfEither(String call, int count, Supplier<RelayStakes> made, OfTwo toCall) {
        int last = count - 1;
        for (int[] pair : new int[][] {{0, last}, {last, 0}}) {
            String got = Answer.of(() -> toCall.at(made.get(), pair[0], pair[1]));
            same(call + " of " + pair[0] + ", " + pair[1] + " throws", String.valueOf(got.startsWith("throws.")), "false");
        }
        for (int none : new int[] {Integer.MIN_VALUE, -1, count, Integer.MAX_VALUE}) {
            for (int[] pair : new int[][] {{none, 0}, {none, last}, {0, none}, {last, none}, {none, none}}) {
                String of = call + " of " + pair[0] + ", " + pair[1];
                fails(of, IndexOutOfBoundsException.class, made, x -> toCall.at(x, pair[0], pair[1]));
            }
        }
    }

    /** A call of two nodes, of as many as there are: it throws for each with itself. */
    void bothTheSame(String call, int count, Supplier<RelayStakes> made, OfTwo toCall) {
        for (int node = 0; node < count; node++) {
            int same = node;
            fails(call + " of " + node + ", " + node, IllegalArgumentException.class, made, x -> toCall.at(x, same, same));
        }
    }

    interface Of {
        long at(RelayStakes x, int number);
    }

    interface OfTwo {
        long at(RelayStakes x, int node, int other);
    }

    void end() {
        System.out.println(test + ": " + asked + " asked, " + wrong + " wrong");
        if (wrong != 0 || asked == 0) {
            System.exit(1);
        }
    }
}
