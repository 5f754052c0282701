/** Counts the answers that are not as due, and tells of each. */
final class Check {
    interface Call {
        void go();
    }

    private static int wrong;
    private static String held = "";

    private Check() {
    }

    /** Names the sentence of the document that the checks from here on hold the class to. */
    static void sentence(String where, String quote) {
        held = where + ", \"" + quote + "\": ";
    }

    static void due(String what, long got, long want) {
        if (got != want) {
            tell(what + " answered " + got + ", due is " + want);
        }
    }

    static void due(String what, boolean got, boolean want) {
        if (got != want) {
            tell(what + " answered " + got + ", due is " + want);
        }
    }

    static void due(String what, double got, double want) {
        if (Double.compare(got, want) != 0) {
            tell(what + " answered " + got + ", due is " + want);
        }
    }

    /** The call must throw this very class. */
    static void refused(String what, Class<?> want, Call call) {
        Class<?> got = null;
        try {
            call.go();
        } catch (RuntimeException e) {
            got = e.getClass();
        }
        if (got != want) {
            tell(what + " threw " + got + ", due is " + want);
        }
    }

    static void tell(String text) {
        wrong++;
        System.out.println(held + text);
    }

    static boolean hasFailed() {
        return wrong > 0;
    }

    /** To be called last by every main. */
    static void end() {
        if (wrong > 0) {
            System.out.println(wrong + " answers are not as due");
            System.exit(1);
        }
    }
}
