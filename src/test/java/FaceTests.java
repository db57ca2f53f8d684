import java.io.IOException;
import java.lang.reflect.Constructor;
import java.lang.reflect.Field;
import java.lang.reflect.Method;
import java.lang.reflect.Modifier;
import java.nio.file.Files;
import java.nio.file.Path;
import java.util.ArrayList;
import java.util.List;
import java.util.Set;
import java.util.TreeSet;
import java.util.regex.Matcher;
import java.util.regex.Pattern;

/** The class has the document's face and no more, and keeps to the plain words of LANGUAGE.md. */
public final class FaceTests {
    private static final Path SOURCE = Path.of("src/main/java/BaileyChain.java");
    private static final Path DOCUMENT = Path.of("../shared/DOC.md");
    private static int wrong = 0;

    private static void check(String what, boolean holds) {
        if (!holds) {
            wrong++;
            System.out.println("does not hold: " + what);
        }
    }

    public static void main(String[] args) throws IOException, IllegalAccessException {
        Set<String> asked = membersOfDocument();
        Set<String> there = membersOfClass();
        check("the face has " + asked + ", the class has " + there, asked.equals(there));
        check("44 promises' worth of members", asked.size() == 12 + 1 + 43);
        check("the class is public and final", Modifier.isPublic(BaileyChain.class.getModifiers())
                && Modifier.isFinal(BaileyChain.class.getModifiers()));
        check("the class has no package", BaileyChain.class.getPackageName().isEmpty());
        nothingElseIsVisible();
        noHelperBearsAPublicName();
        onlyTheWordsAllowed();
        System.out.println(wrong == 0 ? "the face is as due" : wrong + " rules do not hold");
        if (wrong != 0) {
            System.exit(1);
        }
    }

    private static Set<String> membersOfDocument() throws IOException {
        String text = Files.readString(DOCUMENT);
        int from = text.indexOf("```java");
        String block = text.substring(from, text.indexOf("```", from + 3));
        Set<String> members = new TreeSet<>();
        Matcher constants = Pattern.compile("public static final (int|long) (\\w+) = ([-\\w.]+);").matcher(block);
        while (constants.find()) {
            String value = constants.group(3).equals("Long.MIN_VALUE") ? "" + Long.MIN_VALUE : constants.group(3);
            members.add(constants.group(1) + " " + constants.group(2) + " = " + value);
        }
        Matcher methods = Pattern.compile("public (int |long )?(\\w+)\\(([^)]*)\\);").matcher(block);
        while (methods.find()) {
            String result = methods.group(1) == null ? "" : methods.group(1);
            members.add(result + methods.group(2) + "(" + methods.group(3).replaceAll("(int|long) \\w+", "$1").replace(" ", "") + ")");
        }
        return members;
    }

    private static Set<String> membersOfClass() throws IllegalAccessException {
        Set<String> members = new TreeSet<>();
        for (Field field : BaileyChain.class.getFields()) {
            members.add(field.getType() + " " + field.getName() + " = " + field.get(null));
        }
        for (Constructor<?> constructor : BaileyChain.class.getConstructors()) {
            members.add(constructor.getName() + parameters(constructor.getParameterTypes()));
        }
        for (Method method : BaileyChain.class.getDeclaredMethods()) {
            if (Modifier.isPublic(method.getModifiers())) {
                members.add(method.getReturnType() + " " + method.getName() + parameters(method.getParameterTypes()));
            }
        }
        return members;
    }

    private static String parameters(Class<?>[] types) {
        List<String> names = new ArrayList<>();
        for (Class<?> type : types) {
            names.add(type.getName());
        }
        return "(" + String.join(",", names) + ")";
    }

    private static void nothingElseIsVisible() {
        for (Field field : BaileyChain.class.getDeclaredFields()) {
            int modifiers = field.getModifiers();
            check(field + " is public or private", Modifier.isPublic(modifiers) || Modifier.isPrivate(modifiers));
            check(field + " is final, if it is static", !Modifier.isStatic(modifiers) || Modifier.isFinal(modifiers));
        }
        for (Method method : BaileyChain.class.getDeclaredMethods()) {
            int modifiers = method.getModifiers();
            check(method + " is public or private", Modifier.isPublic(modifiers) || Modifier.isPrivate(modifiers));
            check(method + " has at most seven parameters", method.getParameterCount() <= 7);
        }
        check("there is one constructor", BaileyChain.class.getDeclaredConstructors().length == 1);
        for (Class<?> inside : BaileyChain.class.getDeclaredClasses()) {
            check(inside + " is static", Modifier.isStatic(inside.getModifiers()));
            check(inside + " has at most twenty fields", inside.getDeclaredFields().length <= 20);
        }
        check("there are at most twelve classes", BaileyChain.class.getDeclaredClasses().length <= 11);
    }

    private static void noHelperBearsAPublicName() {
        Set<String> publicNames = new TreeSet<>();
        List<Method> helpers = new ArrayList<>();
        for (Method method : BaileyChain.class.getDeclaredMethods()) {
            if (Modifier.isPublic(method.getModifiers())) {
                check(method.getName() + " is there once", publicNames.add(method.getName()));
            } else {
                helpers.add(method);
            }
        }
        for (Class<?> inside : BaileyChain.class.getDeclaredClasses()) {
            helpers.addAll(List.of(inside.getDeclaredMethods()));
        }
        for (Method helper : helpers) {
            check(helper + " has a name of its own", !publicNames.contains(helper.getName()));
        }
    }

    private static void onlyTheWordsAllowed() throws IOException {
        String code = Files.readString(SOURCE)
                .replaceAll("(?s)/\\*.*?\\*/", " ")
                .replaceAll("//[^\n]*", " ");
        String[] refused = {
            "\\bthrow\\b", "\\bthrows\\b", "\\btry\\b", "\\bcatch\\b", "\\bsynchronized\\b", "\\bassert\\b",
            "->", "::", "\\bpackage\\b", "\\bnative\\b", "\\bvolatile\\b", "\\btransient\\b", "\\bnull\\b",
            "Exact\\b", "currentTimeMillis", "nanoTime", "Random", "Thread", "System\\.(?!arraycopy)",
            "Math\\.(?!floorMod|min|max|abs)", "Integer\\.(?!compare)", "Arrays\\.(?!fill|;)",
            "import (?!java\\.util\\.Arrays;)", "[^\\x00-\\x7f]",
        };
        for (String word : refused) {
            check("the source has no " + word, !Pattern.compile(word).matcher(code).find());
        }
    }
}
