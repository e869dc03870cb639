import java.lang.reflect.InvocationTargetException;
import java.lang.reflect.Method;
import java.util.ArrayList;
import java.util.Comparator;
import java.util.List;

/** Runs the tests of a class, counts the answers that are as due, and prints those that are not. */
final class Check {
    static final int NULL = -11, INDEX = -12, CAST = -13, STORE = -14, SIZE = -15;
    static final long BAD_LONG = -9223372036854775806L;
    static final int LEAST_INT = -2147483648;

    private final String name;
    private String about = "";
    private int right;
    private int wrong;

    Check(String name) {
        this.name = name;
    }

    /** Runs every test of a class that is marked with a promise. */
    static void run(Class<?> tests) throws IllegalAccessException {
        Check check = new Check(tests.getSimpleName());
        for (Method test : testsOf(tests)) {
            check.runOne(test);
        }
        check.end();
    }

    /** The tests of a class in the order of their promises. */
    static List<Method> testsOf(Class<?> tests) {
        List<Method> found = new ArrayList<>();
        for (Method method : tests.getDeclaredMethods()) {
            if (method.isAnnotationPresent(Promise.class)) {
                found.add(method);
            }
        }
        found.sort(Comparator.comparingInt((Method test) -> promiseOf(test).number()).thenComparing(Method::getName));
        return found;
    }

    static Promise promiseOf(Method test) {
        return test.getAnnotation(Promise.class);
    }

    private void runOne(Method test) throws IllegalAccessException {
        Promise promise = promiseOf(test);
        about = "promise " + promise.number() + ", '" + promise.says() + "', " + test.getName() + ": ";
        int before = right + wrong;
        try {
            test.invoke(null, this);
        } catch (InvocationTargetException e) {
            holds("nothing is thrown, but " + e.getCause() + " was", false);
        }
        if (right + wrong == before) {
            holds("it looks at something", false);
        }
        about = "";
    }

    void due(String call, long got, long want) {
        if (got == want) {
            right++;
        } else {
            wrong++;
            System.out.println(name + ": " + about + call + " answered " + got + ", due is " + want);
        }
    }

    void holds(String what, boolean is) {
        due(what, is ? 1 : 0, 1);
    }

    void end() {
        System.out.println(name + ": " + right + " answers as due, " + wrong + " not");
        if (wrong != 0 || right == 0) {
            System.exit(1);
        }
    }

    /** Numbers just outside of a range, and those that are furthest from it. */
    static int[] outside(int least, int greatest) {
        return new int[] {Integer.MIN_VALUE, least - 1, greatest + 1, Integer.MAX_VALUE};
    }

    static MineUpside mine(String text) {
        MineUpside x = new MineUpside();
        type(x, text);
        return x;
    }

    /** A mine with another MIDDLE than at first. */
    static MineUpside mine(String text, int middle) {
        MineUpside x = mine(text);
        x.set(0, middle);
        return x;
    }

    static void type(MineUpside x, String text) {
        for (int i = 0; i < text.length(); i++) {
            x.type(text.charAt(i));
        }
    }
}
