/**
 * What all tests share. A story is a run of calls on a new camp; each check tells it anew, so that no
 * camp comes near the 512 calls that the document promises answers for.
 */
final class Check {
    interface Story {
        void tell(NuggetCamp camp);
    }

    interface Question {
        long ask(NuggetCamp camp);
    }

    private static final int LAST_DAY = 5000;

    private static int made = 0;
    private static int wrong = 0;
    private static String about = "";

    private Check() {
    }

    static NuggetCamp camp(Story story) {
        NuggetCamp camp = new NuggetCamp();
        story.tell(camp);
        return camp;
    }

    static Story then(Story first, Story second) {
        return c -> {
            first.tell(c);
            second.tell(c);
        };
    }

    /** Lets days pass, as many at once as the document allows. */
    static void toDay(NuggetCamp camp, int day) {
        while (camp.day() < Math.min(day, LAST_DAY)) {
            camp.pass(Math.min(200, day - camp.day()));
        }
    }

    /** What the checks from here on are about. */
    static void about(String words) {
        about = words;
    }

    static int made() {
        return made;
    }

    static void due(String what, long got, long want) {
        due(what, String.valueOf(got), String.valueOf(want));
    }

    static void due(String what, boolean got, boolean want) {
        due(what, String.valueOf(got), String.valueOf(want));
    }

    static void due(String what, String got, String want) {
        made++;
        if (!got.equals(want)) {
            wrong++;
            String begin = about.isEmpty() ? "" : about + ": ";
            System.out.println(begin + what + ": answered " + got + ", due is " + want);
        }
    }

    /** After the story the question has the answer that is due. */
    static void answers(String what, Story story, Question question, long want) {
        NuggetCamp camp = camp(story);
        long[] got = new long[1];
        String thrown = thrownBy(camp, c -> got[0] = question.ask(c));
        due(what, thrown.equals("nothing") ? String.valueOf(got[0]) : thrown, String.valueOf(want));
    }

    /** After the story the call is not refused, whatever it answers. */
    static void takes(String what, Story story, Question call) {
        due(what, thrownBy(camp(story), call), "nothing");
    }

    static void badIndex(String what, Story story, Question call) {
        refuses(what, story, call, "IndexOutOfBoundsException");
    }

    static void badArgument(String what, Story story, Question call) {
        refuses(what, story, call, "IllegalArgumentException");
    }

    static void badState(String what, Story story, Question call) {
        refuses(what, story, call, "IllegalStateException");
    }

    /** After the story the call throws just this exception, and changes nothing. */
    private static void refuses(String what, Story story, Question call, String want) {
        due(what, thrownBy(camp(story), call), want);
        changesNothing(what, story, call);
    }

    /** All that can be found out behind the call is as it is without it. */
    static void changesNothing(String what, Story story, Question call) {
        String without = Probe.of(story);
        String with = Probe.of(then(story, c -> thrownBy(c, call)));
        due(what, with.equals(without) ? "the same state" : "another state", "the same state");
    }

    /** The exception's name; one that the machine or its library throws by itself is told as such. */
    static String thrownBy(NuggetCamp camp, Question call) {
        try {
            call.ask(camp);
            return "nothing";
        } catch (RuntimeException thrown) {
            String name = thrown.getClass().getSimpleName();
            boolean own = thrown.getStackTrace()[0].getClassName().startsWith("NuggetCamp");
            return own ? name : name + " of the machine";
        }
    }

    /** Ends the test, with the exit code 1 if an answer was wrong. */
    static void end() {
        if (wrong > 0) {
            System.out.println(wrong + " answers are not as due");
            System.exit(1);
        }
    }
}
