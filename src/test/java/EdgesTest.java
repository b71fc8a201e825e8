import java.lang.reflect.InvocationTargetException;
import java.lang.reflect.Method;
import java.util.ArrayList;
import java.util.Arrays;
import java.util.Comparator;
import java.util.List;

/**
 * Runs every boundary case: each is a method of its own in one of the classes below, named by the promise's number
 * (p13_sixtyNights); one that makes no check, or throws, fails, and so does a promise without any.
 */
public final class EdgesTest {
    private static final Class<?>[] ALL = {TapeEdges.class, YardEdges.class, LawEdges.class, TellingEdges.class,
        WeekEdges.class, NightEdges.class, HandEdges.class, JudgedEdges.class, AheadEdges.class, MostEdges.class,
        StageEdges.class, NearEdges.class, SeenEdges.class, GameEdges.class, WeeksEdges.class, MarkEdges.class,
        CountEdges.class};
    private static final int PROMISES = 41;

    public static void main(String[] args) {
        int[] cases = new int[PROMISES + 1];
        int failed = 0;
        int many = 0;
        for (Class<?> edges : ALL) {
            for (Method one : casesOf(edges)) {
                cases[promiseOf(one)]++;
                many++;
                failed += holds(one) ? 0 : 1;
            }
        }
        for (int promise = 1; promise <= PROMISES; promise++) {
            if (cases[promise] == 0) {
                System.out.println("promise " + promise + " has no boundary case");
                failed++;
            }
        }
        System.out.println(failed + " of " + many + " boundary cases do not hold");
        System.exit(failed == 0 ? 0 : 1);
    }

    private static List<Method> casesOf(Class<?> edges) {
        List<Method> cases = new ArrayList<>();
        for (Method method : edges.getDeclaredMethods()) {
            if (method.getName().matches("p[0-9][0-9]_.*")) {
                cases.add(method);
            }
        }
        cases.sort(Comparator.comparing(Method::getName));
        return cases;
    }

    private static int promiseOf(Method one) {
        return Integer.parseInt(one.getName().substring(1, 3));
    }

    private static boolean holds(Method one) {
        Check check = new Check();
        String name = one.getDeclaringClass().getName() + "." + one.getName();
        try {
            one.invoke(null, check);
        } catch (InvocationTargetException e) {
            StackTraceElement[] stack = e.getCause().getStackTrace();
            System.out.println(name + " throws " + e.getCause() + " at " + Arrays.toString(stack));
            return false;
        } catch (IllegalAccessException e) {
            System.out.println(name + " can't be called");
            return false;
        }
        if (check.made() == 0) {
            System.out.println(name + " checks nothing");
        } else if (check.wrong() > 0) {
            System.out.println(name + " does not hold");
        }
        return check.made() > 0 && check.wrong() == 0;
    }
}
