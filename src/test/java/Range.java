/** A call with one number: the last that is allowed and the first that is not, at both ends. */
final class Range {
    interface Call {
        long with(NuggetCamp camp, int number);
    }

    private Range() {
    }

    /** Numbers beyond the ends are an IllegalArgumentException. */
    static void arguments(Check.Story story, Call call, int least, int most) {
        allowed(story, call, least, most);
        badArguments(story, call, Integer.MIN_VALUE, least - 1, most + 1, Integer.MAX_VALUE);
    }

    /** Numbers beyond the ends are an IndexOutOfBoundsException. */
    static void indexes(Check.Story story, Call call, int least, int most) {
        allowed(story, call, least, most);
        badIndexes(story, call, Integer.MIN_VALUE, least - 1, most + 1, Integer.MAX_VALUE);
    }

    static void allowed(Check.Story story, Call call, int... numbers) {
        for (int number : numbers) {
            Check.takes(String.valueOf(number), story, c -> call.with(c, number));
        }
    }

    static void badArguments(Check.Story story, Call call, int... numbers) {
        for (int number : numbers) {
            Check.badArgument(String.valueOf(number), story, c -> call.with(c, number));
        }
    }

    static void badIndexes(Check.Story story, Call call, int... numbers) {
        for (int number : numbers) {
            Check.badIndex(String.valueOf(number), story, c -> call.with(c, number));
        }
    }

    static void badStates(Check.Story story, Call call, int... numbers) {
        for (int number : numbers) {
            Check.badState(String.valueOf(number), story, c -> call.with(c, number));
        }
    }
}
