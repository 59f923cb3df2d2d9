import java.io.IOException;
import java.lang.reflect.Constructor;
import java.lang.reflect.Field;
import java.lang.reflect.Method;
import java.lang.reflect.Modifier;
import java.nio.charset.StandardCharsets;
import java.nio.file.Files;
import java.nio.file.Path;
import java.util.ArrayList;
import java.util.Arrays;
import java.util.List;
import java.util.TreeSet;

/** The public face as the document writes it, and the rules of LANGUAGE.md that can be read off the text. */
public final class FaceTest {
    private static final String NO = "IndexOutOfBoundsException";
    private static final String BAD = "IllegalArgumentException";
    private static final String NOW = "IllegalStateException";
    private static final String[] FACE = {
        "int reach(int, int) " + NO + " " + BAD,
        "boolean dead(int, boolean) " + NO,
        "int agree(int, int, int, int, int, int, int) " + NO + " " + BAD + " " + NOW,
        "int steer(int, int) " + NO + " " + BAD,
        "void prices(int, int, int, int) " + NO + " " + BAD,
        "int lose(int, int) " + NO + " " + BAD,
        "int crash(int) " + NO,
        "int subscriber(int, int, int) " + NO + " " + BAD + " " + NOW,
        "int move(int, int) " + NO,
        "int off(int) " + NO,
        "int attach(int, int) " + NO + " " + NOW,
        "int emergency(int) " + NO,
        "int where(int) " + NO,
        "int contact(int, int) " + NO,
        "boolean agrees(int) " + NO,
        "int subscriberIs(int, int) " + NO + " " + BAD,
        "void cap(int, int, boolean) " + NO + " " + BAD,
        "int call(int, int, int) " + NO + " " + BAD + " " + NOW,
        "int paidAnew(int) " + NO,
        "int file(int, int) " + NO + " " + NOW,
        "int deliver(int, int, int) " + NO,
        "int owes(int, int) " + NO,
        "int owesAnew(int, int) " + NO,
        "int recorded(int, int, int) " + NO + " " + BAD,
        "int pass(int) " + BAD + " " + NOW};
    private static final String[] RULED_OUT = {"->", "::", "catch", "finally", "synchronized", "assert ",
        "static {", "@Override", "hashCode", "toString", "Objects.", "System.out", "Random", "Thread",
        "Exact(", "package ", "instanceof", "\" +", "+ \"", "protected "};
    private static final List<String> IMPORTS = List.of("import java.util.ArrayList;", "import java.util.Arrays;");
    private static final int LONGEST_METHOD = 60;
    private static final int MOST_PARAMETERS = 7;
    private static final int MOST_FIELDS = 20;

    private FaceTest() {
    }

    public static void main(String[] args) throws IOException {
        methodsAreThoseOfTheDocument();
        nothingElseIsSeen();
        nothingIsTooWide();
        theTextKeepsToTheLanguage();
        Expect.end();
    }

    private static void methodsAreThoseOfTheDocument() {
        TreeSet<String> got = new TreeSet<>();
        TreeSet<String> names = new TreeSet<>();
        for (Method method : RoamBooks.class.getDeclaredMethods()) {
            if (Modifier.isPublic(method.getModifiers())) {
                got.add(describe(method));
                names.add(method.getName());
            }
        }
        Expect.due("the public methods", new TreeSet<>(Arrays.asList(FACE)).toString(), got.toString());
        for (Class<?> inside : allClasses()) {
            for (Method method : inside.getDeclaredMethods()) {
                boolean isPrivateNamesake = names.contains(method.getName())
                        && !(inside == RoamBooks.class && Modifier.isPublic(method.getModifiers()));
                Expect.due(inside + " has a namesake of " + method.getName(), false, isPrivateNamesake);
            }
        }
    }

    private static String describe(Method method) {
        List<String> parameters = new ArrayList<>();
        for (Class<?> type : method.getParameterTypes()) {
            parameters.add(type.getSimpleName());
        }
        StringBuilder text = new StringBuilder();
        text.append(method.getReturnType().getSimpleName()).append(' ').append(method.getName());
        text.append('(').append(String.join(", ", parameters)).append(')');
        for (Class<?> type : method.getExceptionTypes()) {
            text.append(' ').append(type.getSimpleName());
        }
        return text.toString();
    }

    private static List<Class<?>> allClasses() {
        List<Class<?>> classes = new ArrayList<>();
        classes.add(RoamBooks.class);
        classes.addAll(Arrays.asList(RoamBooks.class.getDeclaredClasses()));
        return classes;
    }

    private static void nothingElseIsSeen() {
        int modifiers = RoamBooks.class.getModifiers();
        Expect.due("public and final", true, Modifier.isPublic(modifiers) && Modifier.isFinal(modifiers));
        for (Method method : RoamBooks.class.getDeclaredMethods()) {
            Expect.due(method + " is private or public", true, isPrivateOrPublic(method.getModifiers()));
        }
        for (Field field : RoamBooks.class.getDeclaredFields()) {
            boolean isConstant = field.getName().equals("NONE");
            Expect.due(field + " is seen", isConstant, !Modifier.isPrivate(field.getModifiers()));
            if (Modifier.isStatic(field.getModifiers())) {
                Expect.due(field + " is final", true, Modifier.isFinal(field.getModifiers()));
            }
        }
        Constructor<?>[] constructors = RoamBooks.class.getDeclaredConstructors();
        Expect.due("constructors", 1, constructors.length);
        Expect.due("the constructor is public", true, Modifier.isPublic(constructors[0].getModifiers()));
        for (Class<?> inside : RoamBooks.class.getDeclaredClasses()) {
            Expect.due(inside + " is static", true, Modifier.isStatic(inside.getModifiers()));
            Expect.due(inside + " is public", false, Modifier.isPublic(inside.getModifiers()));
        }
        Expect.due("some twelve classes at most", true, allClasses().size() <= 12);
    }

    private static void nothingIsTooWide() {
        for (Class<?> kind : allClasses()) {
            for (Method method : kind.getDeclaredMethods()) {
                Expect.due(method + " takes too many", false, method.getParameterCount() > MOST_PARAMETERS);
            }
            for (Constructor<?> constructor : kind.getDeclaredConstructors()) {
                Expect.due(constructor + " takes too many", false,
                        constructor.getParameterCount() > MOST_PARAMETERS);
            }
            int fields = 0;
            for (Field field : kind.getDeclaredFields()) {
                fields += Modifier.isStatic(field.getModifiers()) ? 0 : 1;
            }
            Expect.due(kind + " has some twenty fields at most", true, fields <= MOST_FIELDS);
        }
    }

    private static boolean isPrivateOrPublic(int modifiers) {
        return Modifier.isPrivate(modifiers) || Modifier.isPublic(modifiers);
    }

    private static void theTextKeepsToTheLanguage() throws IOException {
        String source = System.getProperty("roambooks.source", "src/main/java/RoamBooks.java");
        List<String> lines = Files.readAllLines(Path.of(source), StandardCharsets.ISO_8859_1);
        int began = 0;
        for (int i = 0; i < lines.size(); i++) {
            String line = lines.get(i);
            for (String ruledOut : RULED_OUT) {
                Expect.due("line " + (i + 1) + " has " + ruledOut, false, line.contains(ruledOut));
            }
            if (line.startsWith("import ")) {
                Expect.due(line, true, IMPORTS.contains(line));
            }
            if (line.isEmpty()) {
                began = i;
            }
            Expect.due("line " + (i + 1) + " ends a long method", false, i - began > LONGEST_METHOD);
        }
    }
}
