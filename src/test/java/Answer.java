import java.util.function.LongSupplier;

/** What a call answers, as a text: its number, or the name of what it throws, and whether the library threw it. */
final class Answer {
    private Answer() {
    }

    static String of(LongSupplier call) {
        try {
            return String.valueOf(call.getAsLong());
        } catch (RuntimeException e) {
            return "throws." + e.getClass().getSimpleName() + (isOfOwnCode(e) ? "" : " of the library");
        }
    }

    /** A list that is asked beyond its size throws what the document names, but the class has to look first. */
    private static boolean isOfOwnCode(RuntimeException e) {
        StackTraceElement[] frames = e.getStackTrace();
        return frames.length > 0 && !frames[0].getClassName().contains(".");
    }

    static long bit(boolean is) {
        return is ? 1 : 0;
    }
}
