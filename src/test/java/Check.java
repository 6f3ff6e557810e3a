/** Counts the calls whose answer is not the one that is due, and tells them. */
final class Check {
    interface Call {
        void run();
    }

    private static int asked = 0;
    private static int wrong = 0;

    private Check() {
    }

    static void due(String call, long got, long want) {
        asked++;
        if (got != want) {
            tellWrong(call + " answered " + got + ", due is " + want);
        }
    }

    static void due(String call, boolean got, boolean want) {
        due(call, got ? 1 : 0, want ? 1 : 0);
    }

    static void illegalArgument(String call, Call run) {
        thrown(call, run, IllegalArgumentException.class);
    }

    static void illegalState(String call, Call run) {
        thrown(call, run, IllegalStateException.class);
    }

    private static void thrown(String call, Call run, Class<? extends RuntimeException> want) {
        asked++;
        try {
            run.run();
        } catch (RuntimeException e) {
            if (e.getClass() != want) {
                tellWrong(call + " threw " + e + ", due is " + want.getName());
            }
            return;
        }
        tellWrong(call + " threw nothing, due is " + want.getName());
    }

    static void tellWrong(String text) {
        wrong++;
        System.out.println(text);
    }

    static void end() {
        System.out.println(asked + " asked, " + wrong + " wrong");
        if (wrong != 0 || asked == 0) {
            System.exit(1);
        }
    }
}
