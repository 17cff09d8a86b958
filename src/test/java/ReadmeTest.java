import java.io.IOException;
import java.lang.reflect.InvocationTargetException;
import java.lang.reflect.Method;
import java.lang.reflect.Modifier;
import java.nio.file.Files;
import java.nio.file.Path;
import java.util.ArrayList;
import java.util.Arrays;
import java.util.List;
import java.util.NoSuchElementException;
import java.util.Set;
import java.util.TreeSet;
import java.util.regex.Matcher;
import java.util.regex.Pattern;

/** README.md is held to its word: each call that it shows is made, and its answer is the one told there. */
public final class ReadmeTest {
    private static final Pattern CALL = Pattern.compile("x\\.(\\w+)\\(([^)]*)\\);\\s*// (.+)");
    private static final Pattern READ = Pattern.compile("read\\(x, \"([^\"]*)\"\\);\\s*// (.+)");
    private static final Pattern QUOTED = Pattern.compile("\"([^\"]*)\"");
    private static final Check CHECK = new Check();

    private static final Set<String> SHOWN = new TreeSet<>();
    private static LevelBits x = new LevelBits();
    private static Model model = new Model();
    private static int calls;

    public static void main(String[] args) throws IOException, ReflectiveOperationException {
        String page = Files.readString(Path.of("README.md"));
        String own = Files.readString(Path.of("src/test/java/ReadmeTest.java"));
        for (String block : blocks(page)) {
            if (block.contains("static int ")) {
                yes("the helpers that README.md shows are the ones used here",
                    pressed(own).contains(pressed(block)));
            } else {
                for (String line : joined(block).split("\n")) {
                    show(line.trim());
                }
            }
        }
        yes("README.md shows calls", calls > 0);
        everyCallIsShown();
        everyTestIsNamed(page);
        CHECK.end("readme");
    }

    static int read(LevelBits x, String told) {
        for (int at = 0; at < told.length(); at += 20) {
            x.feed(four(told, at), four(told, at + 4), four(told, at + 8), four(told, at + 12), four(told, at + 16));
        }
        return x.text(told.length());
    }

    static int four(String told, int at) {
        int number = 0;
        for (int i = at; i < at + 4; i++) {
            number = number << 8 | (i < told.length() ? told.charAt(i) : ' ');
        }
        return number;
    }

    private static void yes(String what, boolean so) {
        CHECK.due(what, so, true);
    }

    private static List<String> blocks(String page) {
        List<String> all = new ArrayList<>();
        Matcher m = Pattern.compile("```java\n(.*?)```", Pattern.DOTALL).matcher(page);
        while (m.find()) {
            all.add(m.group(1));
        }
        return all;
    }

    private static String pressed(String s) {
        return s.replaceAll("\\s+", " ").trim();
    }

    /** A text that goes over several lines as one. */
    private static String joined(String block) {
        return block.replaceAll("\"\\s*\\n\\s*\\+ \"", "");
    }

    private static void show(String line) throws ReflectiveOperationException {
        Matcher call = CALL.matcher(line);
        Matcher read = READ.matcher(line);
        if (line.equals("LevelBits x = new LevelBits();")) {
            x = new LevelBits();
            model = new Model();
        } else if (call.matches()) {
            showCall(line, call.group(1), numbers(call.group(2)), call.group(3));
        } else if (read.matches()) {
            calls++;
            String told = read.group(1);
            long due = answer(line, read.group(2));
            CHECK.due("README.md: " + line, read(x, told), due);
            CHECK.due("README.md, the model: " + line, readModel(told), due);
        } else {
            yes("README.md has an answer for the line '" + line + "'", line.isEmpty());
        }
    }

    private static void showCall(String line, String name, Object[] numbers, String told) throws ReflectiveOperationException {
        calls++;
        SHOWN.add(name);
        long due = answer(line, told);
        CHECK.due("README.md: " + line, called(x, name, numbers), due);
        CHECK.due("README.md, the model: " + line, called(model, name, numbers), due);
        Matcher quoted = QUOTED.matcher(told);
        if (name.equals("feed")) {
            yes("README.md tells the bytes of " + line, quoted.find() && quoted.group(1).equals(bytes(numbers)));
        }
    }

    /** What stands behind // up to the colon. */
    private static long answer(String line, String told) {
        String s = told.split(":")[0].trim();
        switch (s) {
            case "true":
                return 1;
            case "false":
                return 0;
            case "NONE":
                return LevelBits.NONE;
            case "NOTHING":
                return LevelBits.NOTHING;
            case "throws NoSuchElementException":
                return Check.THROWN;
            default:
                boolean number = s.matches("-?\\d{1,10}");
                yes("README.md tells an answer in " + line, number);
                return number ? Long.parseLong(s) : Long.MAX_VALUE;
        }
    }

    private static Object[] numbers(String list) {
        String[] parts = list.isBlank() ? new String[0] : list.split(", ");
        Object[] all = new Object[parts.length];
        for (int i = 0; i < parts.length; i++) {
            all[i] = Integer.decode(parts[i]);
        }
        return all;
    }

    private static long called(Object on, String name, Object[] numbers) throws ReflectiveOperationException {
        Class<?>[] types = new Class<?>[numbers.length];
        Arrays.fill(types, int.class);
        Method method = on.getClass().getDeclaredMethod(name, types);
        try {
            Object got = method.invoke(on, numbers);
            return got instanceof Boolean b ? b ? 1 : 0 : ((Number) got).longValue();
        } catch (InvocationTargetException e) {
            if (e.getCause() instanceof NoSuchElementException) {
                return Check.THROWN;
            }
            throw e;
        }
    }

    private static int readModel(String told) {
        for (int at = 0; at < told.length(); at += 20) {
            model.feed(four(told, at), four(told, at + 4), four(told, at + 8), four(told, at + 12), four(told, at + 16));
        }
        return model.text(told.length());
    }

    private static String bytes(Object[] numbers) {
        StringBuilder all = new StringBuilder();
        for (Object number : numbers) {
            for (int shift = 24; shift >= 0; shift -= 8) {
                all.append((char) ((Integer) number >> shift & 255));
            }
        }
        return all.toString();
    }

    private static void everyCallIsShown() {
        for (Method m : LevelBits.class.getDeclaredMethods()) {
            if (Modifier.isPublic(m.getModifiers())) {
                yes("README.md shows " + m.getName(), SHOWN.contains(m.getName()));
            }
        }
    }

    private static void everyTestIsNamed(String page) throws IOException {
        Set<String> named = new TreeSet<>();
        Matcher m = Pattern.compile("`(\\w+Test)`").matcher(page);
        while (m.find()) {
            named.add(m.group(1) + ".java");
        }
        Set<String> there = new TreeSet<>();
        try (var files = Files.list(Path.of("src/test/java"))) {
            files.map(f -> f.getFileName().toString()).filter(f -> f.endsWith("Test.java")).forEach(there::add);
        }
        yes("README.md names the tests " + there + " and not " + named, named.equals(there));
    }
}
