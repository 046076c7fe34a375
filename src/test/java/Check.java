/** What the tests share: answers compared with the ones that are due, and a watch over endless calls. */
final class Check {
    interface Call {
        long answer();
    }

    private static final int SECONDS = 300;
    private static int wrong = 0;
    private static int right = 0;
    private static String about = "";

    private Check() {
    }

    /** A call that never ends must fail the test too, not hold it up. */
    static void watch() {
        Thread watch = new Thread(() -> {
            try {
                Thread.sleep(SECONDS * 1000L);
            } catch (InterruptedException e) {
                return;
            }
            System.out.println("the test takes too long");
            Runtime.getRuntime().halt(1);
        });
        watch.setDaemon(true);
        watch.start();
    }

    /** Names what the next answers are about. */
    static void about(String name) {
        about = name + " | ";
    }

    static void due(String what, String want, String got) {
        if (want.equals(got)) {
            right++;
            return;
        }
        wrong++;
        System.out.println(about + what + " answered " + got + ", due is " + want);
    }

    static void due(String what, long want, long got) {
        due(what, Long.toString(want), Long.toString(got));
    }

    static void due(String what, boolean want, boolean got) {
        due(what, Boolean.toString(want), Boolean.toString(got));
    }

    /** The very class is due: one below it is what the machine throws. */
    static void refused(String what, Class<? extends RuntimeException> want, Call call) {
        String got;
        try {
            got = Long.toString(call.answer());
        } catch (RuntimeException e) {
            got = "throws." + e.getClass().getSimpleName();
        }
        due(what, "throws." + want.getSimpleName(), got);
    }

    static int wrong() {
        return wrong;
    }

    static int asked() {
        return right + wrong;
    }

    static void end(String test) {
        System.out.println(test + ": " + right + " answers as due, " + wrong + " not");
        System.exit(wrong == 0 ? 0 : 1);
    }
}
