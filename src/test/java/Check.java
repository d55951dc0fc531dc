import java.lang.reflect.InvocationTargetException;
import java.lang.reflect.Method;
import java.lang.reflect.Modifier;
import java.util.Arrays;
import java.util.Comparator;

/** Counts the answers that are not as due, and prints each of them. */
final class Check {
    interface Call {
        int answer();
    }

    interface Act {
        void run();
    }

    private int wrong = 0;
    private int looked = 0;
    private String about = "";

    void about(String what) {
        about = what;
    }

    /** Each method that is neither private nor static is a test: none can be left out of a list. */
    void runAll(Object tests) {
        Method[] all = tests.getClass().getDeclaredMethods();
        Arrays.sort(all, Comparator.comparing(Method::getName));
        for (Method m : all) {
            boolean hidden = Modifier.isPrivate(m.getModifiers()) || Modifier.isStatic(m.getModifiers());
            if (!hidden && m.getParameterCount() == 0) {
                runOne(tests, m);
            }
        }
    }

    private void runOne(Object tests, Method m) {
        about(m.getName());
        try {
            m.invoke(tests);
        } catch (InvocationTargetException e) {
            wrong++;
            System.out.println(m.getName() + ": a call of the scene was refused");
            e.getCause().printStackTrace(System.out);
        } catch (IllegalAccessException e) {
            wrong++;
            System.out.println(m.getName() + ": can't be called");
        }
    }

    void due(int want, Call call) {
        same(Integer.toString(want), answer(call));
    }

    static String answer(Call call) {
        try {
            return Integer.toString(call.answer());
        } catch (RuntimeException e) {
            return "throws." + e.getClass().getSimpleName();
        }
    }

    void fine(Act act) {
        same("nothing", outcome(act));
    }

    void unknown(Act act) {
        same("throws.IllegalArgumentException", outcome(act));
    }

    void range(Act act) {
        same("throws.IndexOutOfBoundsException", outcome(act));
    }

    void state(Act act) {
        same("throws.IllegalStateException", outcome(act));
    }

    void noRoom(Act act) {
        same("throws.UnsupportedOperationException", outcome(act));
    }

    // The class's own name is compared: an ArrayIndexOutOfBoundsException of the machine is wrong
    // even where the document asks for an IndexOutOfBoundsException.
    static String outcome(Act act) {
        try {
            act.run();
            return "nothing";
        } catch (RuntimeException e) {
            return "throws." + e.getClass().getSimpleName();
        }
    }

    void same(String want, String got) {
        looked++;
        if (want.equals(got)) {
            return;
        }
        wrong++;
        System.out.println(about + ", " + place() + ": answered " + got + ", due is " + want);
    }

    private static String place() {
        for (StackTraceElement e : new Throwable().getStackTrace()) {
            if (!e.getClassName().startsWith("Check")) {
                return e.getFileName() + ":" + e.getLineNumber();
            }
        }
        return "?";
    }

    boolean failed() {
        return wrong != 0;
    }

    void end() {
        System.out.println(looked + " answers looked at, " + wrong + " not as due");
        // A test that looks at nothing has not run, which must not pass for success.
        if (wrong != 0 || looked == 0) {
            System.exit(1);
        }
    }
}
