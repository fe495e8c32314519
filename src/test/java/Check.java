/**
 * What all tests share. A story is a run of calls on a new camp; each check tells it anew, so that no
 * camp comes near the 512 calls that the document promises answers for.
 */
final class Check {
    interface Story {
        void tell(NuggetCamp camp);
    }

    interface Question {
        long ask(NuggetCamp camp);
    }

    private static int wrong = 0;

    private Check() {
    }

    static NuggetCamp camp(Story story) {
        NuggetCamp camp = new NuggetCamp();
        story.tell(camp);
        return camp;
    }

    static void due(String what, long got, long want) {
        if (got != want) {
            report(what, String.valueOf(got), String.valueOf(want));
        }
    }

    static void due(String what, boolean got, boolean want) {
        if (got != want) {
            report(what, String.valueOf(got), String.valueOf(want));
        }
    }

    /** After the story the question has the answer that is due. */
    static void answers(String what, Story story, Question question, long want) {
        due(what, question.ask(camp(story)), want);
    }

    static void badIndex(String what, Story story, Question call) {
        refuses(what, story, call, "IndexOutOfBoundsException");
    }

    static void badArgument(String what, Story story, Question call) {
        refuses(what, story, call, "IllegalArgumentException");
    }

    static void badState(String what, Story story, Question call) {
        refuses(what, story, call, "IllegalStateException");
    }

    /** After the story the call throws just this exception, and changes nothing. */
    private static void refuses(String what, Story story, Question call, String want) {
        NuggetCamp camp = camp(story);
        String got = thrownBy(camp, call);
        if (!got.equals(want)) {
            report(what, got, want);
        }
        if (!stateOf(camp).equals(stateOf(camp(story)))) {
            report(what, "another state", "the same state");
        }
    }

    /** The exception's name; one that the machine or its library throws by itself is told as such. */
    static String thrownBy(NuggetCamp camp, Question call) {
        try {
            call.ask(camp);
            return "nothing";
        } catch (RuntimeException thrown) {
            String name = thrown.getClass().getSimpleName();
            boolean own = thrown.getStackTrace()[0].getClassName().startsWith("NuggetCamp");
            return own ? name : name + " of the machine";
        }
    }

    /** All that can be asked with at most some 460 questions. */
    static String stateOf(NuggetCamp camp) {
        StringBuilder state = new StringBuilder();
        state.append(camp.day());
        for (int cell = 0; cell < 40; cell++) {
            state.append("\ncell ").append(cell).append(' ').append(camp.sample(cell));
            state.append(' ').append(camp.holds(cell)).append(' ').append(camp.belief(cell));
        }
        for (int what = 0; what < 5; what++) {
            state.append("\ngold ").append(camp.gold(what));
        }
        for (int what = 0; what < 6; what++) {
            state.append("\ncamp ").append(camp.camp(what));
        }
        addRows(state, "miner", 8, camp::ofMiner);
        addRows(state, "claim", 6, camp::ofClaim);
        addRows(state, "right", 1, (right, what) -> camp.gets(right));
        addRows(state, "plan", 1, (claim, what) ->
                camp.ofClaim(claim, 2) > 5 ? 0 : camp.plan(claim, NuggetCamp.MONITOR));
        return state.toString();
    }

    private interface Row {
        int ask(int number, int what);
    }

    private static void addRows(StringBuilder state, String name, int columns, Row row) {
        for (int number = 0; number < 30; number++) {
            for (int what = 0; what < columns; what++) {
                try {
                    state.append('\n').append(name).append(' ').append(row.ask(number, what));
                } catch (IndexOutOfBoundsException noMore) {
                    return;
                }
            }
        }
    }

    private static void report(String what, String got, String want) {
        wrong++;
        System.out.println(what + ": answered " + got + ", due is " + want);
    }

    /** Ends the test, with the exit code 1 if an answer was wrong. */
    static void end() {
        if (wrong > 0) {
            System.out.println(wrong + " answers are not as due");
            System.exit(1);
        }
    }
}
