import java.io.IOException;
import java.lang.reflect.InvocationTargetException;
import java.lang.reflect.Method;
import java.nio.file.Files;
import java.nio.file.Path;
import java.util.List;
import java.util.regex.Matcher;
import java.util.regex.Pattern;
import java.util.stream.Collectors;
import java.util.stream.Stream;

/** What README.md says is so: its examples' answers, the classes and the tests that it names. */
public final class ReadmeTests {
    private static final Pattern CALL = Pattern.compile("x\\.(\\w+)\\(([^)]*)\\);\\s*// (-?\\d+)\\b.*");
    private static int wrong = 0;

    private static void check(String what, boolean holds) {
        if (!holds) {
            wrong++;
            System.out.println("does not hold: " + what);
        }
    }

    public static void main(String[] args) throws IOException, ReflectiveOperationException {
        String text = Files.readString(Path.of("README.md"));
        examples(text);
        tests(text);
        classes(text);
        System.out.println(wrong == 0 ? "README.md is as due" : wrong + " things that README.md says do not hold");
        if (wrong != 0) {
            System.exit(1);
        }
    }

    /** Each call on x in a java block has its answer behind it; a new x begins with "x = new BaileyChain()". */
    private static void examples(String text) throws ReflectiveOperationException {
        Matcher blocks = Pattern.compile("(?s)```java\n(.*?)```").matcher(text);
        int calls = 0;
        while (blocks.find()) {
            BaileyChain x = null;
            for (String line : blocks.group(1).split("\n")) {
                if (line.contains("x = new BaileyChain();")) {
                    x = new BaileyChain();
                } else if (line.trim().startsWith("x.")) {
                    oneCall(x, line.trim());
                    calls++;
                }
            }
        }
        check("README.md has examples", calls > 0);
    }

    private static void oneCall(BaileyChain x, String line) throws ReflectiveOperationException {
        Matcher call = CALL.matcher(line);
        check("a new object, and an answer behind: " + line, x != null && call.matches());
        if (x != null && call.matches()) {
            long got = answer(x, call.group(1), call.group(2));
            check(line + ", which answered " + got, got == Long.parseLong(call.group(3)));
        }
    }

    private static long answer(BaileyChain x, String name, String arguments)
            throws IllegalAccessException, InvocationTargetException {
        for (Method method : BaileyChain.class.getMethods()) {
            if (method.getName().equals(name)) {
                String[] words = arguments.isEmpty() ? new String[0] : arguments.split(", ");
                Object[] values = new Object[words.length];
                for (int i = 0; i < words.length; i++) {
                    values[i] = value(words[i], method.getParameterTypes()[i]);
                }
                return ((Number) method.invoke(x, values)).longValue();
            }
        }
        check("there is a method " + name, false);
        return 0;
    }

    private static Object value(String word, Class<?> type) {
        long value = Long.decode(word);
        if (type == long.class) {
            return value;
        }
        return (int) value;
    }

    private static void tests(String text) throws IOException {
        for (String folder : List.of("src/test/java", "src/test/support")) {
            for (String name : namesIn(folder)) {
                check(folder + "/" + name + " is named", text.contains("`" + name + "`"));
            }
        }
        Matcher named = Pattern.compile("`(\\w+Tests)`").matcher(text);
        while (named.find()) {
            check(named.group(1) + " is there", Files.exists(Path.of("src/test/java", named.group(1) + ".java")));
        }
        check(".ci/run can be run", Files.isExecutable(Path.of(".ci/run")));
    }

    private static List<String> namesIn(String folder) throws IOException {
        try (Stream<Path> files = Files.list(Path.of(folder))) {
            return files.map(file -> file.getFileName().toString().replace(".java", "")).sorted()
                    .collect(Collectors.toList());
        }
    }

    private static void classes(String text) {
        for (Class<?> inside : BaileyChain.class.getDeclaredClasses()) {
            check("the class " + inside.getSimpleName() + " is named", text.contains("`" + inside.getSimpleName() + "`"));
        }
    }
}
