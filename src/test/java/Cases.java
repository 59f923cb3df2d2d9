import java.lang.reflect.InvocationTargetException;
import java.lang.reflect.Method;
import java.lang.reflect.Modifier;
import java.util.ArrayList;
import java.util.Comparator;
import java.util.List;

/** Runs the cases of a test, which are its methods that take and answer nothing, each by its name. */
final class Cases {
    private Cases() {
    }

    /** The cases are the static methods of a test class. */
    static void run(Class<?> test) {
        run(test.getSimpleName(), null, casesOf(test, true));
    }

    /** The cases are the methods of an object, which several tests have alike. */
    static void run(String test, Object object) {
        run(test, object, casesOf(object.getClass(), false));
    }

    private static void run(String test, Object object, List<Method> cases) {
        for (Method one : cases) {
            Expect.begin(test + "." + one.getName());
            runOne(object, one);
        }
        System.out.println(test + ": " + cases.size() + " cases");
        Expect.end();
    }

    private static List<Method> casesOf(Class<?> kind, boolean isStatic) {
        List<Method> cases = new ArrayList<>();
        for (Method method : kind.getDeclaredMethods()) {
            boolean isCase = Modifier.isStatic(method.getModifiers()) == isStatic && !method.isSynthetic()
                    && method.getParameterCount() == 0 && method.getReturnType() == void.class;
            if (isCase) {
                cases.add(method);
            }
        }
        cases.sort(Comparator.comparing(Method::getName));
        return cases;
    }

    private static void runOne(Object object, Method one) {
        int before = Expect.comparedYet();
        try {
            one.invoke(object);
        } catch (InvocationTargetException e) {
            Expect.fail("ended by " + e.getCause());
        } catch (IllegalAccessException e) {
            Expect.fail("cannot be run: " + e);
        }
        if (Expect.comparedYet() == before) {
            Expect.fail("nothing was compared");
        }
    }
}
