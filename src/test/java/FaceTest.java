import java.lang.reflect.Constructor;
import java.lang.reflect.Field;
import java.lang.reflect.Method;
import java.lang.reflect.Modifier;
import java.util.ArrayList;
import java.util.Arrays;
import java.util.HashSet;
import java.util.List;
import java.util.Set;
import java.util.TreeSet;

/** The public face is the document's, and nothing else can be seen (LANGUAGE.md, rules 1, 5 and 11). */
public final class FaceTest {
    private static final String FACE = """
        boolean crew(int)
        boolean end(int)
        boolean limit(int)
        int count(int)
        int even(int, int)
        int fault(int)
        int feed(int, int, int, int, int)
        int fewest(int)
        int race(int, int, int, int)
        int raced(int, int) throws java.util.NoSuchElementException
        int rank(int, int)
        int strike(int)
        int tell()
        long difference(int, int, boolean)
        long doubt(int, int, boolean)
        long drift(boolean)
        long guess(int, int, int, boolean, boolean)
        long next(int, int)
        long odd(int)
        long rest(int, boolean)
        long suit(int, int, boolean)
        long sum(boolean)
        long swaps(int, int, int)
        """;

    private FaceTest() {
    }

    public static void main(String[] args) {
        constants();
        constructor();
        methods();
        hiddenMembers();
        classesInside();
        Check.done("FaceTest");
    }

    private static void constants() {
        Check.due("NONE", SeatRacing.NONE, -1);
        Check.due("NO_NUMBER", SeatRacing.NO_NUMBER, -1000000000000000000L);
        Set<String> seen = new HashSet<>();
        for (Field field : SeatRacing.class.getFields()) {
            seen.add(Modifier.toString(field.getModifiers()) + " " + field.getType() + " " + field.getName());
        }
        Set<String> wanted = Set.of("public static final int NONE", "public static final long NO_NUMBER");
        Check.due("the public fields are " + seen, seen.equals(wanted), true);
    }

    private static void constructor() {
        Constructor<?>[] all = SeatRacing.class.getDeclaredConstructors();
        Check.due("constructors", all.length, 1);
        Check.due("its parameters", all[0].getParameterCount(), 0);
        Check.due("it is public", Modifier.isPublic(all[0].getModifiers()), true);
        Check.due("its exceptions", all[0].getExceptionTypes().length, 0);
        int modifiers = SeatRacing.class.getModifiers();
        Check.due("public and final", Modifier.isPublic(modifiers) && Modifier.isFinal(modifiers), true);
    }

    private static String told(Method method) {
        List<String> parameters = new ArrayList<>();
        for (Class<?> type : method.getParameterTypes()) {
            parameters.add(type.getName());
        }
        String told = method.getReturnType() + " " + method.getName() + "(" + String.join(", ", parameters) + ")";
        for (Class<?> type : method.getExceptionTypes()) {
            told += " throws " + type.getName();
        }
        return told;
    }

    private static void methods() {
        Set<String> seen = new TreeSet<>();
        for (Method method : SeatRacing.class.getDeclaredMethods()) {
            if (!Modifier.isPrivate(method.getModifiers())) {
                Check.due(told(method) + " is public", Modifier.isPublic(method.getModifiers()), true);
                Check.due(told(method) + " is static", Modifier.isStatic(method.getModifiers()), false);
                seen.add(told(method));
            }
        }
        Set<String> wanted = new TreeSet<>(Arrays.asList(FACE.split("\n")));
        Check.due("methods: " + seen, seen.equals(wanted), true);
    }

    private static void hiddenMembers() {
        for (Field field : SeatRacing.class.getDeclaredFields()) {
            int modifiers = field.getModifiers();
            boolean fine = Modifier.isPrivate(modifiers) || Modifier.isPublic(modifiers);
            Check.due(field.getName() + " is private", fine, true);
            Check.due(field.getName() + ", static, is final",
                !Modifier.isStatic(modifiers) || Modifier.isFinal(modifiers), true);
        }
        List<Class<?>> all = new ArrayList<>(List.of(SeatRacing.class.getDeclaredClasses()));
        Set<String> names = new HashSet<>();
        for (String line : FACE.split("\n")) {
            names.add(line.split("[ (]")[1]);
        }
        all.add(SeatRacing.class);
        for (Class<?> type : all) {
            for (Method method : type.getDeclaredMethods()) {
                boolean face = type == SeatRacing.class && Modifier.isPublic(method.getModifiers());
                Check.due(method + " bears a name of the face", !face && names.contains(method.getName()), false);
                Check.due(method + " has eight parameters or more", method.getParameterCount() > 7, false);
            }
        }
    }

    private static void classesInside() {
        Class<?>[] inside = SeatRacing.class.getDeclaredClasses();
        Check.due("twelve classes at most", inside.length < 12, true);
        for (Class<?> type : inside) {
            int modifiers = type.getModifiers();
            Check.due(type + " is static", Modifier.isStatic(modifiers), true);
            Check.due(type + " is not seen outside",
                Modifier.isPublic(modifiers) || Modifier.isProtected(modifiers), false);
            int fields = 0;
            for (Field field : type.getDeclaredFields()) {
                fields += Modifier.isStatic(field.getModifiers()) ? 0 : 1;
                Check.due(field + ", static, is final",
                    !Modifier.isStatic(field.getModifiers()) || Modifier.isFinal(field.getModifiers()), true);
            }
            Check.due(type + " has twenty fields at most", fields <= 20, true);
        }
    }
}
