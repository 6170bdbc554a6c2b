import java.io.IOException;
import java.lang.reflect.InvocationTargetException;
import java.lang.reflect.Method;
import java.nio.file.Files;
import java.nio.file.Path;
import java.util.regex.Matcher;
import java.util.regex.Pattern;

/** What README.md shows is so: its calls answer what stands behind them, and it leaves no call out. */
public final class ReadmeTest {
    private static final Pattern CALL = Pattern.compile("x\\.(\\w+)\\((.*?)\\); +// ([-\\w]+).*");

    private ReadmeTest() {
    }

    public static void main(String[] args) throws IOException, ReflectiveOperationException {
        String readme = Files.readString(Path.of("README.md"));
        calls(block(readme, "java"));
        Check.tells(new SeatRacing(), block(readme, "text"), 4);
        for (Method method : SeatRacing.class.getDeclaredMethods()) {
            if (java.lang.reflect.Modifier.isPublic(method.getModifiers())) {
                Check.due("README.md has a row for " + method.getName(), inTable(readme, method), true);
            }
        }
        Check.done("ReadmeTest");
    }

    private static String block(String readme, String language) {
        Matcher block = Pattern.compile("```" + language + "\n(.*?)```", Pattern.DOTALL).matcher(readme);
        if (!block.find()) {
            Check.fail("README.md has no block of " + language);
            return "";
        }
        return block.group(1);
    }

    /** A row names the method with as many parameters as it has. */
    private static boolean inTable(String readme, Method method) {
        Matcher row = Pattern.compile("(?m)^\\|.*`" + method.getName() + "\\(([^)]*)\\)`").matcher(readme);
        if (!row.find()) {
            return false;
        }
        int named = row.group(1).isEmpty() ? 0 : row.group(1).split(",").length;
        return named == method.getParameterCount();
    }

    private static void calls(String block) throws ReflectiveOperationException {
        SeatRacing x = new SeatRacing();
        String[] lines = block.split("\n");
        Check.due(lines[0] + " is how it starts", lines[0].equals("SeatRacing x = new SeatRacing();"), true);
        for (int i = 1; i < lines.length; i++) {
            Matcher call = CALL.matcher(lines[i]);
            if (!call.matches()) {
                Check.fail("not a call with its answer: " + lines[i]);
                continue;
            }
            Check.due(lines[i], answer(x, call.group(1), call.group(2).split(", ")), number(call.group(3)));
        }
    }

    private static long answer(SeatRacing x, String name, String[] told) throws ReflectiveOperationException {
        for (Method method : SeatRacing.class.getDeclaredMethods()) {
            if (method.getName().equals(name) && method.getParameterCount() == told.length) {
                return number(method.invoke(x, parameters(method, told)).toString());
            }
        }
        throw new InvocationTargetException(null, "no call " + name);
    }

    private static Object[] parameters(Method method, String[] told) {
        Object[] parameters = new Object[told.length];
        for (int i = 0; i < told.length; i++) {
            boolean isFlag = method.getParameterTypes()[i] == boolean.class;
            parameters[i] = isFlag ? (Object) Boolean.valueOf(told[i]) : (Object) (int) number(told[i]);
        }
        return parameters;
    }

    private static long number(String told) {
        switch (told) {
            case "true": return 1;
            case "false": return 0;
            case "NONE": return SeatRacing.NONE;
            case "NO_NUMBER": return SeatRacing.NO_NUMBER;
            default: return told.startsWith("0b") ? Long.parseLong(told.substring(2), 2) : Long.parseLong(told);
        }
    }
}
