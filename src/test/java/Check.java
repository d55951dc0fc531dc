/** Counts the answers that are not as due, and prints each of them. */
final class Check {
    interface Call {
        int answer();
    }

    interface Act {
        void run();
    }

    private int wrong = 0;
    private int looked = 0;
    private String about = "";

    void about(String what) {
        about = what;
    }

    void due(int want, Call call) {
        String got;
        try {
            got = Integer.toString(call.answer());
        } catch (RuntimeException e) {
            got = "throws." + e.getClass().getSimpleName();
        }
        same(Integer.toString(want), got);
    }

    void fine(Act act) {
        same("nothing", outcome(act));
    }

    void unknown(Act act) {
        same("throws.IllegalArgumentException", outcome(act));
    }

    void range(Act act) {
        same("throws.IndexOutOfBoundsException", outcome(act));
    }

    void state(Act act) {
        same("throws.IllegalStateException", outcome(act));
    }

    void noRoom(Act act) {
        same("throws.UnsupportedOperationException", outcome(act));
    }

    // The class's own name is compared: an ArrayIndexOutOfBoundsException of the machine is wrong
    // even where the document asks for an IndexOutOfBoundsException.
    private static String outcome(Act act) {
        try {
            act.run();
            return "nothing";
        } catch (RuntimeException e) {
            return "throws." + e.getClass().getSimpleName();
        }
    }

    void same(String want, String got) {
        looked++;
        if (want.equals(got)) {
            return;
        }
        wrong++;
        System.out.println(about + ", " + place() + ": answered " + got + ", due is " + want);
    }

    private static String place() {
        for (StackTraceElement e : new Throwable().getStackTrace()) {
            if (!e.getClassName().startsWith("Check")) {
                return e.getFileName() + ":" + e.getLineNumber();
            }
        }
        return "?";
    }

    boolean failed() {
        return wrong != 0;
    }

    void end() {
        System.out.println(looked + " answers looked at, " + wrong + " not as due");
        if (wrong != 0) {
            System.exit(1);
        }
    }
}
