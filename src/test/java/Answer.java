import java.util.function.LongSupplier;

/** What a call answers, as a text: its number, or the name of what it throws. */
final class Answer {
    private Answer() {
    }

    static String of(LongSupplier call) {
        try {
            return String.valueOf(call.getAsLong());
        } catch (RuntimeException e) {
            return "throws." + e.getClass().getSimpleName();
        }
    }

    static long bit(boolean is) {
        return is ? 1 : 0;
    }
}
