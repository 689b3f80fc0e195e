/** Compares answers with those that are due, and tells the place of every one that is not. */
final class Due {
    private static int wrong;
    private static int asked;

    private Due() {
    }

    static void is(int promise, long got, long want) {
        asked++;
        if (got != want) {
            wrong++;
            System.out.println("promise " + promise + ", " + place() + ": answered " + got + ", due is " + want);
        }
    }

    static void holds(String what, boolean so) {
        asked++;
        if (!so) {
            wrong++;
            System.out.println("not so: " + what);
        }
    }

    static int asked() {
        return asked;
    }

    static void end() {
        System.out.println(asked + " answers, " + wrong + " wrong");
        if (wrong != 0) {
            System.exit(1);
        }
    }

    /** The line of the test that asked, not that of a helper between. */
    private static String place() {
        for (StackTraceElement at : new Throwable().getStackTrace()) {
            String name = at.getClassName();
            if (!name.equals("Due") && !name.equals("Edge")) {
                return at.getFileName() + ":" + at.getLineNumber();
            }
        }
        return "nowhere";
    }

    /** Feeds a text to the tape, eight bytes at most a call. */
    static void feed(EarPaper x, String text) {
        for (int from = 0; from < text.length(); from += 8) {
            int n = Math.min(8, text.length() - from);
            long bytes = 0;
            for (int i = n - 1; i >= 0; i--) {
                bytes = bytes << 8 | text.charAt(from + i);
            }
            x.feed(n, bytes);
        }
    }
}
