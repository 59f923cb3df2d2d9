import java.lang.reflect.InvocationTargetException;
import java.lang.reflect.Method;
import java.lang.reflect.Modifier;
import java.util.ArrayList;
import java.util.Comparator;
import java.util.List;

/** Runs the cases of a test class, each of its static methods that take and answer nothing, by their names. */
final class Cases {
    private Cases() {
    }

    static void run(Class<?> test) {
        List<Method> cases = casesOf(test);
        for (Method one : cases) {
            runOne(one);
        }
        System.out.println(test.getSimpleName() + ": " + cases.size() + " cases");
        Expect.end();
    }

    private static List<Method> casesOf(Class<?> test) {
        List<Method> cases = new ArrayList<>();
        for (Method method : test.getDeclaredMethods()) {
            boolean isCase = Modifier.isStatic(method.getModifiers()) && !method.isSynthetic()
                    && method.getParameterCount() == 0 && method.getReturnType() == void.class;
            if (isCase) {
                cases.add(method);
            }
        }
        cases.sort(Comparator.comparing(Method::getName));
        return cases;
    }

    private static void runOne(Method one) {
        Expect.begin(one.getDeclaringClass().getSimpleName() + "." + one.getName());
        int before = Expect.comparedYet();
        try {
            one.invoke(null);
        } catch (InvocationTargetException e) {
            Expect.fail("ended by " + e.getCause());
        } catch (IllegalAccessException e) {
            Expect.fail("cannot be run: " + e);
        }
        if (Expect.comparedYet() == before) {
            Expect.fail("nothing was compared");
        }
    }
}
