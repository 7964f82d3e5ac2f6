/** Counts the answers that are not as due, and ends a test by them. */
final class Check {
    interface Call {
        Object answer();
    }

    private int wrong;
    private int asked;

    void due(String what, long got, long want) {
        asked++;
        if (got != want) {
            tell(what + " answered " + got + ", due is " + want);
        }
    }

    void due(String what, boolean got, boolean want) {
        due(what, got ? 1 : 0, want ? 1 : 0);
    }

    void due(String what, String got, String want) {
        asked++;
        if (!want.equals(got)) {
            tell(what + " answered \"" + got + "\", due is \"" + want + "\"");
        }
    }

    void dueDouble(String what, double got, double want) {
        asked++;
        if (got != want) {
            tell(what + " answered " + got + ", due is " + want);
        }
    }

    void noIndex(Exportcover x, String what, Call call) {
        dueThrow(x, what, call, IndexOutOfBoundsException.class);
    }

    void noArgument(Exportcover x, String what, Call call) {
        dueThrow(x, what, call, IllegalArgumentException.class);
    }

    void noState(Exportcover x, String what, Call call) {
        dueThrow(x, what, call, IllegalStateException.class);
    }

    /** The very class is due, none below it, and nothing may be changed by the call. */
    private void dueThrow(Exportcover x, String what, Call call, Class<?> want) {
        asked++;
        long before = x.digest();
        try {
            tell(what + " answered " + call.answer() + ", due is " + want.getSimpleName());
        } catch (RuntimeException thrown) {
            if (thrown.getClass() != want) {
                tell(what + " threw " + thrown + ", due is " + want.getSimpleName());
            }
        }
        due(what + " left the digest", x.digest(), before);
    }

    private void tell(String line) {
        wrong++;
        System.out.println(line);
    }

    void end() {
        System.out.println(wrong == 0 ? asked + " answers are as due" : wrong + " answers are not as due");
        if (wrong != 0) {
            System.exit(1);
        }
    }
}
