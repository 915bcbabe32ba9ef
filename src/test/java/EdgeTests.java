import java.lang.reflect.InvocationTargetException;
import java.lang.reflect.Method;
import java.util.ArrayList;
import java.util.Comparator;
import java.util.List;
import java.util.regex.Matcher;
import java.util.regex.Pattern;

/**
 * Runs the tests that stand for one sentence of the document each: every function of the classes below whose name is
 * "promise", the promise's number, and what the sentence says.
 */
public final class EdgeTests {
    private static final int PROMISES = 39;
    private static final Pattern NAME = Pattern.compile("promise([0-9]+)[A-Z].*");
    private static final Class<?>[] PLACES = {
        NewAndStatusEdges.class, LagoonEdges.class, ShelfEdges.class, SeaEdges.class, LawEdges.class,
        HouseEdges.class, BoatEdges.class, QuarterEdges.class, ForetoldEdges.class, ImageEdges.class};

    private EdgeTests() {
    }

    public static void main(String[] args) {
        List<Method> tests = allTests();
        int wrong = 0;
        boolean[] has = new boolean[PROMISES + 1];
        for (Method test : tests) {
            has[promiseOf(test)] = true;
            wrong += passes(test) ? 0 : 1;
        }
        for (int promise = 1; promise <= PROMISES; promise++) {
            if (!has[promise]) {
                System.out.println("EdgeTests: promise " + promise + " has no test");
                wrong++;
            }
        }
        System.out.println("EdgeTests: " + tests.size() + " tests, " + wrong + " wrong");
        if (wrong != 0) {
            System.exit(1);
        }
    }

    private static List<Method> allTests() {
        List<Method> tests = new ArrayList<>();
        for (Class<?> place : PLACES) {
            for (Method method : place.getDeclaredMethods()) {
                int promise = promiseOf(method);
                if (promise >= 1 && promise <= PROMISES) {
                    tests.add(method);
                }
            }
        }
        tests.sort(Comparator.comparingInt(EdgeTests::promiseOf).thenComparing(Method::getName));
        return tests;
    }

    private static int promiseOf(Method method) {
        Matcher name = NAME.matcher(method.getName());
        return name.matches() ? Integer.parseInt(name.group(1)) : 0;
    }

    private static boolean passes(Method test) {
        Scene.forgetAll();
        try {
            test.setAccessible(true);
            test.invoke(null);
            Scene.endAll();
            return true;
        } catch (InvocationTargetException thrown) {
            System.out.println(test.getName() + ": " + thrown.getCause());
        } catch (IllegalAccessException | AssertionError thrown) {
            System.out.println(test.getName() + ": " + thrown);
        }
        return false;
    }
}
