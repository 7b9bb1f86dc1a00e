/** What the tests of boundary cases ask, each question of a works made anew. */
final class Bounds {
    interface Numbered {
        Object on(Graphline x, int number);
    }

    interface Signed {
        Object on(Graphline x, char sign);
    }

    /** Signs that lie near to those of the document, or that a cut to eight bits would take for them. */
    private static final int SIGNS = 1024;
    private static final int CALLS_A_WORKS = 200;

    private Bounds() {
    }

    static void answers(Object want, Story story, Story.Step call) {
        Due.same(want, answer(story.told(), call));
    }

    static void taken(Story story, Story.Step call) {
        String got = String.valueOf(answer(story.told(), call));
        Due.same(false, got.startsWith("throws "));
    }

    static void index(Story story, Story.Step call) {
        refused(IndexOutOfBoundsException.class, story, call);
    }

    static void argument(Story story, Story.Step call) {
        refused(IllegalArgumentException.class, story, call);
    }

    static void unsupported(Story story, Story.Step call) {
        refused(UnsupportedOperationException.class, story, call);
    }

    static void state(Story story, Story.Step call) {
        refused(IllegalStateException.class, story, call);
    }

    static void arithmetic(Story story, Story.Step call) {
        refused(ArithmeticException.class, story, call);
    }

    /** The least and the greatest number are taken; the next ones behind them, and the furthest, are refused. */
    static void range(Story story, int least, int most, Numbered call) {
        taken(story, x -> call.on(x, least));
        taken(story, x -> call.on(x, most));
        for (int wrong : new int[] {least - 1, most + 1, Integer.MIN_VALUE, Integer.MAX_VALUE}) {
            argument(story, x -> call.on(x, wrong));
        }
    }

    /** There are so many, numbered from 0: none is below, and none behind the last. */
    static void numbers(Story story, int many, Numbered call) {
        for (int number = 0; number < many; number++) {
            int it = number;
            taken(story, x -> call.on(x, it));
        }
        for (int wrong : new int[] {-1, many, Integer.MIN_VALUE, Integer.MAX_VALUE}) {
            index(story, x -> call.on(x, wrong));
        }
    }

    /** These signs are taken, and no other one. */
    static void signs(Story story, String signs, Signed call) {
        for (char sign : signs.toCharArray()) {
            taken(story, x -> call.on(x, sign));
        }
        Graphline x = story.told();
        for (int number = 0; number < SIGNS; number++) {
            char sign = (char) number;
            if (number % CALLS_A_WORKS == 0) {
                x = story.told();
            }
            if (signs.indexOf(sign) < 0) {
                Due.same("throws " + IllegalArgumentException.class.getName(), answer(x, y -> call.on(y, sign)));
            }
        }
        argument(story, y -> call.on(y, (char) 0));
        argument(story, y -> call.on(y, (char) (signs.charAt(0) + 256)));
        argument(story, y -> call.on(y, (char) 65535));
    }

    private static void refused(Class<? extends RuntimeException> want, Story story, Story.Step call) {
        Due.same("throws " + want.getName(), answer(story.told(), call));
        String still = story.later();
        String then = story.then(x -> answer(x, call)).later();
        int at = firstApart(still, then);
        Due.same("later calls show" + near(still, at), "later calls show" + near(then, at));
    }

    private static Object answer(Graphline x, Story.Step call) {
        try {
            return call.on(x);
        } catch (RuntimeException e) {
            return "throws " + (Due.isOwn(e) ? e.getClass().getName() : "what the machine throws: " + e);
        }
    }

    /** -1 where both are the same. */
    private static int firstApart(String one, String other) {
        if (one.equals(other)) {
            return -1;
        }
        int at = 0;
        while (at < one.length() && at < other.length() && one.charAt(at) == other.charAt(at)) {
            at++;
        }
        return at;
    }

    private static String near(String text, int at) {
        return at < 0 ? "" : " .." + text.substring(Math.max(0, at - 60), Math.min(text.length(), at + 60)) + "..";
    }
}
