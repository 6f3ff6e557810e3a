/** Counts the calls whose answer is not the one that is due, and tells them. */
final class Check {
    interface Call {
        void run();
    }

    interface Told {
        void tell(int number);
    }

    private static int asked = 0;
    private static int wrong = 0;
    private static String sentence = "";

    private Check() {
    }

    /** The document's sentence that the next checks are about; a wrong answer is told with it. */
    static void sentence(String text) {
        sentence = "\"" + text + "\": ";
    }

    static void due(String call, long got, long want) {
        asked++;
        if (got != want) {
            tellWrong(call + " answered " + got + ", due is " + want);
        }
    }

    static void due(String call, boolean got, boolean want) {
        due(call, got ? 1 : 0, want ? 1 : 0);
    }

    static void legal(String call, Call run) {
        thrown(call, run, null);
    }

    static void illegalArgument(String call, Call run) {
        thrown(call, run, IllegalArgumentException.class);
    }

    static void illegalState(String call, Call run) {
        thrown(call, run, IllegalStateException.class);
    }

    /** The last legal number on either side, and the first illegal one behind it and the last. */
    static void bounds(String number, int least, int greatest, Told told) {
        int[] legal = {least, least + (greatest - least) / 2, greatest};
        int[] illegal = {least - 1, greatest + 1, Integer.MIN_VALUE, Integer.MAX_VALUE};
        for (int value : legal) {
            legal(number + " = " + value, () -> told.tell(value));
        }
        for (int value : illegal) {
            illegalArgument(number + " = " + value, () -> told.tell(value));
        }
    }

    private static void thrown(String call, Call run, Class<? extends RuntimeException> want) {
        asked++;
        Class<? extends RuntimeException> got = null;
        try {
            run.run();
        } catch (RuntimeException e) {
            got = e.getClass();
        }
        if (got != want) {
            tellWrong(call + " threw " + nameOf(got) + ", due is " + nameOf(want));
        }
    }

    private static String nameOf(Class<?> thrown) {
        return thrown == null ? "nothing" : thrown.getName();
    }

    static void tellWrong(String text) {
        wrong++;
        System.out.println(sentence + text);
    }

    static void end() {
        System.out.println(asked + " asked, " + wrong + " wrong");
        if (wrong != 0 || asked == 0) {
            System.exit(1);
        }
    }
}
