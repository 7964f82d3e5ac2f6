/** Counts the answers that are not as due, and ends a test by them. */
final class Check {
    interface Call {
        Object answer();
    }

    interface CallOf {
        Object answer(int number);
    }

    private int wrong;
    private int asked;
    private String about = "";

    /** What is tried from now on: it is told ahead of each answer that is not as due. */
    void about(String tried) {
        about = tried + ": ";
    }

    int asked() {
        return asked;
    }

    void due(String what, long got, long want) {
        asked++;
        if (got != want) {
            tell(what + " answered " + got + ", due is " + want);
        }
    }

    void due(String what, boolean got, boolean want) {
        due(what, got ? 1 : 0, want ? 1 : 0);
    }

    void due(String what, String got, String want) {
        asked++;
        if (!want.equals(got)) {
            tell(what + " answered \"" + got + "\", due is \"" + want + "\"");
        }
    }

    void dueDouble(String what, double got, double want) {
        asked++;
        if (got != want) {
            tell(what + " answered " + got + ", due is " + want);
        }
    }

    void noIndex(Exportcover x, String what, Call call) {
        dueThrow(x, what, call, IndexOutOfBoundsException.class);
    }

    void noArgument(Exportcover x, String what, Call call) {
        dueThrow(x, what, call, IllegalArgumentException.class);
    }

    void noState(Exportcover x, String what, Call call) {
        dueThrow(x, what, call, IllegalStateException.class);
    }

    /** There are so many, numbered from 0: what lies beside these numbers is none of them. */
    void noIndexBeside(Exportcover x, String what, int count, CallOf call) {
        int[] beside = {Integer.MIN_VALUE, -1, count, count + 1, Integer.MAX_VALUE};
        for (int number : beside) {
            noIndex(x, what + " of " + number, () -> call.answer(number));
        }
    }

    /** What lies beside these bounds is too small, or too large. */
    void noArgumentBeside(Exportcover x, String what, int least, int most, CallOf call) {
        int[] beside = {Integer.MIN_VALUE, least - 1, most + 1, Integer.MAX_VALUE};
        for (int number : beside) {
            noArgument(x, what + " of " + number, () -> call.answer(number));
        }
    }

    /** The very class is due, none below it, and thrown by the class's own words. */
    void dueThrow(String what, Call call, Class<?> want) {
        asked++;
        try {
            tell(what + " answered " + call.answer() + ", due is " + want.getSimpleName());
        } catch (RuntimeException thrown) {
            if (thrown.getClass() != want) {
                tell(what + " threw " + thrown + ", due is " + want.getSimpleName());
            }
            if (!isWritten(thrown)) {
                tell(what + " let the machine throw " + thrown);
            }
        }
    }

    /** Likewise, and nothing may be changed by the call. */
    private void dueThrow(Exportcover x, String what, Call call, Class<?> want) {
        long before = x.digest();
        dueThrow(what, call, want);
        due(what + " left the digest", x.digest(), before);
    }

    /** What the machine throws comes out of another method than the guards: demand.. and ..At. */
    static boolean isWritten(RuntimeException thrown) {
        StackTraceElement[] trace = thrown.getStackTrace();
        if (trace.length == 0 || !trace[0].getClassName().equals("Exportcover")) {
            return false;
        }
        String name = trace[0].getMethodName();
        return name.startsWith("demand") || name.endsWith("At");
    }

    private void tell(String line) {
        wrong++;
        System.out.println(about + line);
    }

    void end() {
        System.out.println(wrong == 0 ? asked + " answers are as due" : wrong + " answers are not as due");
        if (wrong != 0) {
            System.exit(1);
        }
    }
}
