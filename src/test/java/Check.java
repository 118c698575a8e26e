import java.lang.reflect.InvocationTargetException;
import java.lang.reflect.Method;
import java.lang.reflect.Modifier;

/** Counts and prints the answers that are not the ones that are due. */
final class Check {
    private static int wrongInAll = 0;

    private final String about;
    private int wrong = 0;

    Check(String about) {
        this.about = about;
    }

    void due(String call, long got, long want) {
        if (got != want) {
            wrong(call + " answered " + got + ", due is " + want);
        }
    }

    void due(String call, boolean got, boolean want) {
        due(call, got ? 1 : 0, want ? 1 : 0);
    }

    void due(String call, String got, String want) {
        if (!got.equals(want)) {
            wrong(call + " answered\n" + got + "\ndue is\n" + want);
        }
    }

    private void wrong(String text) {
        wrong++;
        wrongInAll++;
        System.out.println(about + ": " + text);
    }

    int wrong() {
        return wrong;
    }

    /** Runs each static method that is not private and takes and answers nothing, so that no test is forgotten. */
    static void runAll(Class<?> tests) {
        int count = 0;
        for (Method m : tests.getDeclaredMethods()) {
            if (isTest(m)) {
                run(m);
                count++;
            }
        }
        System.out.println(count + " tests");
        end();
    }

    private static boolean isTest(Method m) {
        return Modifier.isStatic(m.getModifiers()) && !Modifier.isPrivate(m.getModifiers())
            && !m.isSynthetic() && m.getParameterCount() == 0 && m.getReturnType() == void.class;
    }

    private static void run(Method m) {
        try {
            m.invoke(null);
        } catch (InvocationTargetException e) {
            new Check(m.getName()).wrong("threw " + e.getCause());
        } catch (IllegalAccessException e) {
            new Check(m.getName()).wrong("can't be run: " + e);
        }
    }

    static void end() {
        System.out.println(wrongInAll == 0 ? "all answers are as due" : wrongInAll + " answers are not as due");
        if (wrongInAll != 0) {
            System.exit(1);
        }
    }
}
