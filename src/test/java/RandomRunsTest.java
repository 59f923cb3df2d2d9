import java.lang.reflect.InvocationTargetException;
import java.lang.reflect.Method;
import java.lang.reflect.Modifier;
import java.util.ArrayList;
import java.util.Comparator;
import java.util.HashMap;
import java.util.List;
import java.util.Map;
import java.util.Random;

/** Random runs of 512 calls, each answer compared with PlainModel's: also that a throw changes nothing. */
public final class RandomRunsTest {
    private static final int RUNS = 1500;
    private static final int CALLS = 512;
    private static final int[] WRONG = {-1, -2, 6, 7, 8, 10, 64, 100, 201, 36001, 50001, 1000001,
        Integer.MAX_VALUE, Integer.MIN_VALUE};

    // A letter for each parameter: n network, o network or NONE, p place, s subscriber, S set, z flag.
    private static final String[][] KINDS = {
        {"reach", "pS", "6"}, {"dead", "nz", "3"}, {"agree", "nnFTPHL", "6"}, {"steer", "no", "4"},
        {"prices", "nPPP", "2"}, {"lose", "nl", "4"}, {"crash", "n", "2"}, {"subscriber", "npC", "4"},
        {"move", "sp", "6"}, {"off", "s", "3"}, {"attach", "sn", "24"}, {"emergency", "s", "3"},
        {"where", "s", "3"}, {"contact", "ns", "4"}, {"agrees", "s", "4"}, {"subscriberIs", "sw", "8"},
        {"cap", "scz", "2"}, {"call", "ssd", "34"}, {"paidAnew", "s", "2"}, {"file", "nn", "10"},
        {"deliver", "nnf", "12"}, {"owes", "nn", "4"}, {"owesAnew", "nn", "4"}, {"recorded", "nnr", "6"},
        {"pass", "m", "10"}};

    private final Random random;
    private final int networks;
    private final int places;
    private final int passing;
    private final RoamBooks asked = new RoamBooks();
    private final PlainModel due = new PlainModel();
    private final Map<String, Integer> seen;

    private RandomRunsTest(int seed, Map<String, Integer> seen) {
        random = new Random(seed);
        networks = 2 + random.nextInt(5);
        places = 1 + random.nextInt(8);
        passing = new int[] {100, 1000, 5000, 50000}[random.nextInt(4)];
        this.seen = seen;
    }

    public static void main(String[] args) {
        Map<String, Integer> seen = new HashMap<>();
        for (int seed = 0; seed < RUNS; seed++) {
            new RandomRunsTest(seed, seen).run(seed);
        }
        // A run that reaches nothing would compare nothing: each reason must have come up.
        for (int why = 0; why <= 6; why++) {
            Expect.due("call came to " + why, true, seen.containsKey("call " + why));
        }
        for (int why = 0; why <= 5; why++) {
            Expect.due("attach came to " + why, true, seen.containsKey("attach " + why));
        }
        for (int why = -2; why <= 2; why++) {
            Expect.due("deliver came to " + why, true, seen.containsKey("deliver " + why));
        }
        Expect.end();
    }

    private void run(int seed) {
        begin(seed);
        for (int i = 0; i < CALLS - 40; i++) {
            String[] kind = anyKind();
            compare(seed, kind[0], arguments(kind));
        }
    }

    private void begin(int seed) {
        for (int place = 0; place < places; place++) {
            compare(seed, "reach", place, random.nextInt(4) == 0 ? random.nextInt(64) : 63);
        }
        for (int i = 0; i < 2 + random.nextInt(5); i++) {
            compare(seed, "subscriber", random.nextInt(networks), random.nextInt(places), 0);
        }
        for (int i = 0; i < networks * 3; i++) {
            compare(seed, "agree", random.nextInt(networks), random.nextInt(networks), 0, 1000000, 9, 5, 4);
        }
    }

    private String[] anyKind() {
        int all = 0;
        for (String[] kind : KINDS) {
            all += Integer.parseInt(kind[2]);
        }
        int at = random.nextInt(all);
        for (String[] kind : KINDS) {
            at -= Integer.parseInt(kind[2]);
            if (at < 0) {
                return kind;
            }
        }
        throw new IllegalStateException();
    }

    private Object[] arguments(String[] kind) {
        Object[] arguments = new Object[kind[1].length()];
        int wrong = random.nextInt(12) == 0 ? random.nextInt(arguments.length) : -1;
        for (int i = 0; i < arguments.length; i++) {
            arguments[i] = argument(kind[1].charAt(i));
            if (i == wrong && arguments[i] instanceof Integer) {
                arguments[i] = WRONG[random.nextInt(WRONG.length)];
            }
        }
        return arguments;
    }

    private Object argument(char letter) {
        switch (letter) {
            case 'n': return random.nextInt(networks);
            case 'o': return random.nextInt(networks + 1) - 1;
            case 'p': return random.nextInt(places);
            case 's': return random.nextInt(6);
            case 'S': return random.nextInt(64) | random.nextInt(64);
            case 'C': return random.nextInt(64) & random.nextInt(64) & random.nextInt(64);
            case 'z': return random.nextInt(3) == 0;
            case 'F': return random.nextInt(20) * random.nextInt(passing);
            case 'T': return 1 + random.nextInt(random.nextInt(3) == 0 ? 1000000 : 20 * passing);
            case 'P': return random.nextInt(100);
            case 'H': return random.nextInt(3) * random.nextInt(60);
            case 'L': return random.nextInt(50);
            case 'l': return random.nextInt(10);
            case 'w': return random.nextInt(7);
            case 'c': return random.nextInt(3) == 0 ? random.nextInt(100000) : random.nextInt(1000);
            case 'd': return 1 + random.nextInt(random.nextInt(9) == 0 ? 36000 : 400);
            case 'f': return random.nextInt(3);
            case 'r': return random.nextInt(4);
            default: return 1 + random.nextInt(random.nextInt(5) == 0 ? passing : Math.min(passing, 200));
        }
    }

    private void compare(int seed, String name, Object... arguments) {
        String want = answer(due, name, arguments);
        String got = answer(asked, name, arguments);
        seen.merge(name + " " + got, 1, Integer::sum);
        Expect.due("run " + seed + ": " + name + List.of(arguments), want, got);
    }

    private static final Map<String, Method> METHODS = new HashMap<>();

    private static Method method(Class<?> kind, String name) {
        return METHODS.computeIfAbsent(kind.getName() + "." + name, key -> {
            List<Method> found = new ArrayList<>();
            for (Method method : kind.getDeclaredMethods()) {
                if (method.getName().equals(name) && Modifier.isPublic(method.getModifiers())) {
                    found.add(method);
                }
            }
            found.sort(Comparator.comparing(Method::getName));
            found.get(0).setAccessible(true);
            return found.get(0);
        });
    }

    private static String answer(Object object, String name, Object[] arguments) {
        try {
            return String.valueOf(method(object.getClass(), name).invoke(object, arguments));
        } catch (InvocationTargetException e) {
            return thrown(e.getCause());
        } catch (IllegalAccessException e) {
            return e.toString();
        }
    }

    // What the library throws by itself begins in the library, so that its place tells it.
    private static String thrown(Throwable e) {
        String from = e.getStackTrace().length == 0 ? "" : e.getStackTrace()[0].getClassName();
        boolean own = from.startsWith("RoamBooks") || from.startsWith("PlainModel");
        return "throws " + e.getClass().getName() + (own ? "" : " from " + from);
    }
}
