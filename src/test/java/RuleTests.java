import java.io.IOException;
import java.lang.reflect.Field;
import java.lang.reflect.Method;
import java.lang.reflect.Modifier;
import java.nio.charset.StandardCharsets;
import java.nio.file.Files;
import java.nio.file.Path;
import java.util.ArrayList;
import java.util.Arrays;
import java.util.List;
import java.util.Set;
import java.util.TreeSet;
import java.util.regex.Matcher;
import java.util.regex.Pattern;

/** What of ../shared/LANGUAGE.md can be seen by a look at the class and its text. */
public final class RuleTests {
    private static final String FACE = "feed(1) define(1) dual(2) spell(2) ask(2) same(2) fits(2) witness(3) bound(2) "
        + "meet(4) open(3) size(1) say(3) hear(2) choose(3) offered(2) give(3) take(2) end(2) look(2) blame(1) plan(1) "
        + "run(2) left(1) waiting(0) image(0) back(0) led(1) count(1)";
    private static int passed;
    private static int failed;

    private static void rule(int number, String what, boolean kept) {
        if (kept) passed++;
        else failed++;
        if (!kept) System.out.println("rule " + number + ": " + what);
    }

    public static void main(String[] args) throws IOException {
        Path file = Path.of(args.length > 0 ? args[0] : "src/main/java/SessionEnds.java");
        String text = Files.readString(file, StandardCharsets.ISO_8859_1);
        face();
        classes();
        words(text.replaceAll("(?s)/\\*.*?\\*/", "").replaceAll("//[^\n]*", ""));
        lengths(text);
        room();
        noCallThrows();
        System.out.println(passed + " passed, " + failed + " failed");
        if (failed != 0) System.exit(1);
    }

    private static void face() {
        Set<String> due = new TreeSet<>(Arrays.asList(FACE.split(" ")));
        Set<String> names = new TreeSet<>();
        for (String one : due) names.add(one.replaceAll("\\(.*", ""));
        Set<String> seen = new TreeSet<>();
        for (Method one : SessionEnds.class.getDeclaredMethods()) {
            if (one.isSynthetic()) continue;
            if (Modifier.isPrivate(one.getModifiers())) {
                rule(1, "private " + one.getName(), !names.contains(one.getName()));
                continue;
            }
            boolean plain = one.getModifiers() == Modifier.PUBLIC && one.getReturnType() == int.class;
            rule(1, one.getName(), plain && Arrays.stream(one.getParameterTypes()).allMatch(t -> t == int.class));
            seen.add(one.getName() + "(" + one.getParameterCount() + ")");
        }
        rule(1, "the methods of the face", seen.equals(due));
        rule(1, "public final", Modifier.isPublic(SessionEnds.class.getModifiers()) && Modifier.isFinal(SessionEnds.class.getModifiers()));
        rule(1, "one constructor", SessionEnds.class.getConstructors().length == 1 && SessionEnds.class.getDeclaredConstructors().length == 1);
        Set<String> constants = new TreeSet<>();
        for (Field one : SessionEnds.class.getDeclaredFields()) {
            if (!Modifier.isPrivate(one.getModifiers())) constants.add(one.getName());
        }
        rule(1, "the constants of the face", constants.equals(Set.of("BAD", "NOT", "FULL", "WAITS", "STATE", "BREACH")));
    }

    private static void classes() {
        List<Class<?>> all = new ArrayList<>(List.of(SessionEnds.class));
        all.addAll(Arrays.asList(SessionEnds.class.getDeclaredClasses()));
        rule(11, "twelve classes", all.size() <= 12);
        for (Class<?> one : all) {
            int fields = 0;
            for (Field field : one.getDeclaredFields()) {
                boolean isStatic = Modifier.isStatic(field.getModifiers());
                if (!isStatic) fields++;
                else rule(5, one + "." + field.getName(), Modifier.isFinal(field.getModifiers()) && field.getType().isPrimitive());
            }
            rule(11, one + " has " + fields + " fields", fields <= 20);
            for (Method method : one.getDeclaredMethods()) rule(11, method.toString(), method.getParameterCount() <= 7);
            if (one == SessionEnds.class) continue;
            rule(1, one + " stays inside", Modifier.isStatic(one.getModifiers()) && !Modifier.isPublic(one.getModifiers()));
            rule(2, one + " has none inside", one.getDeclaredClasses().length == 0);
        }
    }

    private static void words(String code) {
        String none = "throw|throws|try|catch|finally|assert|synchronized|volatile|transient|native|package|protected|"
            + "double|float|Object|equals|hashCode|toString|Thread|Random|Class|instanceof|->|::|\"";
        for (String one : none.split("\\|")) {
            String as = Character.isLetter(one.charAt(0)) ? "\\b" + one + "\\b" : Pattern.quote(one);
            rule(4, one + " stands there", !Pattern.compile(as).matcher(code).find());
        }
        Matcher calls = Pattern.compile("\\b(System|Arrays|Math|Integer|Long|String|StringBuilder)\\.(\\w+)").matcher(code);
        Set<String> known = Set.of("System.arraycopy", "Arrays.copyOf", "Arrays.fill", "Math.max", "Math.min", "Integer.bitCount");
        while (calls.find()) rule(4, calls.group(), known.contains(calls.group()));
        Matcher imports = Pattern.compile("import [^;]*;").matcher(code);
        while (imports.find()) rule(4, imports.group(), imports.group().equals("import java.util.Arrays;"));
        rule(9, "while stands there", !Pattern.compile("\\bwhile\\b").matcher(code).find());
        rule(3, "signs above 127", code.chars().allMatch(sign -> sign < 128));
    }

    private static void lengths(String text) {
        String[] lines = text.split("\n");
        int from = -1;
        for (int i = 0; i < lines.length; i++) {
            if (lines[i].matches("( {4}| {8})[\\w\\[\\] ]+\\(.*\\{") && !lines[i].contains(" new ")) from = i;
            if (from >= 0 && lines[i].matches("( {4}| {8})}")) {
                rule(11, lines[from].trim() + " has " + (i - from + 1) + " lines", i - from < 60);
                from = -1;
            }
            rule(11, "line " + (i + 1) + " is long", lines[i].length() <= 120);
        }
    }

    /** A byte at least goes to each field and element, so that fewer bytes than these are fewer of them. */
    private static void room() {
        com.sun.management.ThreadMXBean told =
            (com.sun.management.ThreadMXBean) java.lang.management.ManagementFactory.getThreadMXBean();
        long me = Thread.currentThread().getId();
        for (int way = 0; way < 6; way++) {
            long before = told.getThreadAllocatedBytes(me);
            SessionEnds x = new SessionEnds();
            for (int i = 0; i < 177; i++) x.feed("!i.".charAt(i % 3));
            x.feed('0');
            x.define(0);
            x.image();
            for (int i = 0; i < 330; i++) dear(x, way, i);
            long bytes = told.getThreadAllocatedBytes(me) - before;
            rule(12, "way " + way + " takes " + bytes + " bytes", bytes < 3_600_000);
        }
    }

    private static void dear(SessionEnds x, int way, int i) {
        switch (way) {
            case 0: x.dual(0, 1); break;
            case 1: if (x.open(0, 0, 0) < 0) x.back(); break;
            case 2: x.meet(0, 0, 2, 0); break;
            case 3: x.spell(0, i); break;
            case 4: x.ask(0, 2); break;
            default: x.image(); break;
        }
    }

    private static void noCallThrows() {
        int[] odd = {Integer.MIN_VALUE, Integer.MAX_VALUE, -1, 0, 1, 2, 3, 4, 15, 16, 97, 200, 201, 255, 256, 1 << 30};
        java.util.Random draw = new java.util.Random(11);
        Method[] all = Arrays.stream(SessionEnds.class.getDeclaredMethods())
            .filter(m -> Modifier.isPublic(m.getModifiers())).sorted(java.util.Comparator.comparing(Method::getName)).toArray(Method[]::new);
        String[] texts = {"0", "*x.+{a:!i.x,b:?(!b.0).0}", "!(+{a:0}).&{a:0,b:*y.?b.y}", "0!1,0?,1>0", "0+a,0&,0."};
        for (int run = 0; run < 300; run++) {
            SessionEnds x = new SessionEnds();
            for (int i = 0; i < 512; i++) {
                if (draw.nextInt(20) == 0) for (char sign : texts[draw.nextInt(5)].toCharArray()) x.feed(sign);
                Method one = all[draw.nextInt(all.length)];
                Object[] args = new Object[one.getParameterCount()];
                for (int a = 0; a < args.length; a++) args[a] = draw.nextInt(3) > 0 ? draw.nextInt(4) : odd[draw.nextInt(odd.length)];
                try {
                    one.invoke(x, args);
                } catch (ReflectiveOperationException thrown) {
                    rule(7, one + Arrays.toString(args) + " threw " + thrown.getCause(), false);
                }
            }
        }
        rule(7, "no call throws", true);
    }
}
