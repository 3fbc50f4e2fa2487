import java.io.IOException;
import java.lang.reflect.Method;
import java.lang.reflect.Modifier;
import java.nio.charset.StandardCharsets;
import java.nio.file.Files;
import java.nio.file.Path;
import java.util.Arrays;
import java.util.regex.Matcher;
import java.util.regex.Pattern;

/** README.md: each call of its examples answers what it says, and it names every call of the face. */
public final class ReadmeTests {
    private static final Pattern CALL = Pattern.compile("x\\.(\\w+)\\(([-0-9, ]*)\\); *// (-?\\d+|[A-Z]+)\\b.*");
    private static final Pattern TEXT = Pattern.compile("tape\\(x, \"([^\"]*)\"\\);");
    private static int passed;
    private static int failed;
    private static SessionEnds x;

    private static void wrong(String what) {
        failed++;
        System.out.println("README.md: " + what);
    }

    private static int answer(String name, String args) throws ReflectiveOperationException {
        String[] told = args.isBlank() ? new String[0] : args.split(",");
        Class<?>[] types = new Class<?>[told.length];
        Object[] values = new Object[told.length];
        for (int i = 0; i < told.length; i++) {
            types[i] = int.class;
            values[i] = Integer.parseInt(told[i].trim());
        }
        return (int) SessionEnds.class.getMethod(name, types).invoke(x, values);
    }

    private static int value(String told) throws ReflectiveOperationException {
        boolean isName = Character.isLetter(told.charAt(0));
        return isName ? SessionEnds.class.getField(told).getInt(null) : Integer.parseInt(told);
    }

    private static void example(String line) throws ReflectiveOperationException {
        Matcher text = TEXT.matcher(line);
        Matcher call = CALL.matcher(line);
        if (line.equals("SessionEnds x = new SessionEnds();")) {
            x = new SessionEnds();
        } else if (text.matches()) {
            for (char sign : text.group(1).toCharArray()) x.feed(sign);
        } else if (call.matches()) {
            int got = answer(call.group(1), call.group(2));
            if (got == value(call.group(3))) passed++;
            else wrong(line + " answered " + got);
        } else if (line.contains("x.") && !line.contains("for (")) {
            wrong("not understood: " + line);
        }
    }

    public static void main(String[] args) throws IOException, ReflectiveOperationException {
        String page = Files.readString(Path.of("README.md"), StandardCharsets.UTF_8);
        boolean isExample = false;
        for (String line : page.split("\n")) {
            if (line.startsWith("```")) isExample = line.equals("```java");
            else if (isExample) example(line.trim());
        }
        Method[] face = SessionEnds.class.getDeclaredMethods();
        for (Method one : Arrays.stream(face).filter(m -> Modifier.isPublic(m.getModifiers())).toArray(Method[]::new)) {
            if (page.contains("`" + one.getName() + "`")) passed++;
            else wrong(one.getName() + " is not named");
        }
        System.out.println(passed + " passed, " + failed + " failed");
        if (failed != 0 || passed < 60) System.exit(1);
    }
}
