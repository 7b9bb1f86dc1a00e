/** What a test asks of an answer: counts, prints what is not as due, and ends with exit code 1 if there was any. */
final class Due {
    interface Call {
        Object answer();
    }

    private static int asked = 0;
    private static int wrong = 0;

    private Due() {
    }

    static void same(Object want, Object got) {
        asked++;
        if (!want.equals(got)) {
            wrong++;
            System.out.println(place() + ": answered " + got + ", due is " + want);
        }
    }

    /** The call throws exactly this exception, by a throw statement of Graphline. What it must not change, Bounds asks. */
    static void thrown(Class<? extends RuntimeException> want, Call call) {
        String got = "nothing thrown";
        try {
            call.answer();
        } catch (RuntimeException e) {
            got = isOwn(e) ? e.getClass().getName() : "the machine's " + e;
        }
        same(want.getName(), got);
    }

    static void outOfBounds(Call call) {
        thrown(IndexOutOfBoundsException.class, call);
    }

    static void badArgument(Call call) {
        thrown(IllegalArgumentException.class, call);
    }

    static void unsupported(Call call) {
        thrown(UnsupportedOperationException.class, call);
    }

    static void badState(Call call) {
        thrown(IllegalStateException.class, call);
    }

    /** Graphline's own throws stand in the first frame; the library's and most of the machine's do not. */
    static boolean isOwn(RuntimeException e) {
        StackTraceElement[] frames = e.getStackTrace();
        boolean isNamed = e.getClass() == IndexOutOfBoundsException.class
            || e.getClass() == IllegalArgumentException.class
            || e.getClass() == UnsupportedOperationException.class
            || e.getClass() == IllegalStateException.class
            || e.getClass() == ArithmeticException.class && !"/ by zero".equals(e.getMessage());
        return isNamed && frames.length > 0 && frames[0].getClassName().startsWith("Graphline");
    }

    static void end() {
        String name = caller(2).getClassName();
        System.out.println(name + ": " + asked + " asked, " + wrong + " wrong");
        if (wrong != 0 || asked == 0) {
            System.exit(1);
        }
    }

    private static String place() {
        int up = 2;
        while (isAsking(caller(up).getClassName())) {
            up++;
        }
        return caller(up).getFileName() + ":" + caller(up).getLineNumber();
    }

    private static boolean isAsking(String name) {
        return name.equals("Due") || name.startsWith("Bounds");
    }

    private static StackTraceElement caller(int up) {
        return Thread.currentThread().getStackTrace()[up + 1];
    }
}
