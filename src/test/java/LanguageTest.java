import java.io.IOException;
import java.lang.reflect.Constructor;
import java.lang.reflect.Executable;
import java.lang.reflect.Field;
import java.lang.reflect.Method;
import java.lang.reflect.Modifier;
import java.nio.file.Files;
import java.nio.file.Path;
import java.util.ArrayList;
import java.util.Arrays;
import java.util.List;
import java.util.Set;
import java.util.regex.Matcher;
import java.util.regex.Pattern;

/** What of ../shared/LANGUAGE.md can be seen in the words of the class and in what it is compiled to. */
final class LanguageTest {
    private static final Due due = new Due("LanguageTest");
    private static final Path SOURCE = Path.of("src/main/java/RelayStakes.java");
    private static final Set<String> IMPORTS = Set.of("java.util.ArrayList", "java.util.List", "java.util.Arrays",
        "java.util.Iterator", "java.util.NoSuchElementException");
    private static final Set<Class<?>> CONSTANTS = Set.of(int.class, long.class, boolean.class, char.class, String.class,
        int[].class, long[].class, char[].class, byte[].class);
    private static final Set<Class<?>> LIBRARY = Set.of(String.class, StringBuilder.class, Integer.class, ArrayList.class, List.class);
    private static final String THROWN = "IllegalStateException|IllegalArgumentException|IndexOutOfBoundsException|ArithmeticException"
        + "|UnsupportedOperationException|NoSuchElementException|RuntimeException";
    private static final String CAUGHT = "IllegalStateException|IllegalArgumentException|UnsupportedOperationException|NoSuchElementException";

    public static void main(String[] args) throws IOException {
        words(Files.readString(SOURCE));
        List<Class<?>> classes = new ArrayList<>(Arrays.asList(RelayStakes.class.getDeclaredClasses()));
        for (Class<?> inside : classes) {
            inside(inside);
        }
        classes.add(RelayStakes.class);
        due.is("rule 11: at most 12 classes", classes.size() <= 12, true);
        for (Class<?> one : classes) {
            fields(one);
            parameters(one);
        }
        due.end();
    }

    private static void words(String source) {
        due.same("rule 3: signs", found(source, "[^\\n -~]"), "[]");
        String code = source.replaceAll("(?s)/\\*.*?\\*/", "").replaceAll("(?m)^( *)// .*$", "");
        for (String name : foundAll(code, "(?m)^import (.*);$")) {
            due.is("rule 4: import " + name, IMPORTS.contains(name), true);
        }
        due.same("no package line", found(code, "(?m)^package .*$"), "[]");
        due.same("rule 2: lambdas, method references", found(code, "->|::"), "[]");
        due.same("rule 4: names that end in Exact", found(code, "\\w+Exact\\b"), "[]");
        due.same("rule 4: other names of the library",
            found(code, "\\b(?:java\\.(?!util\\.\\w+;)[\\w.]+|System\\.(?!arraycopy\\b)\\w+|Thread\\w*|Random\\w*|Hash\\w+|Stream\\w*)\\b"), "[]");
        due.same("rule 6: what is thrown", found(code, "\\bthrow\\b(?! new (?:" + THROWN + ")\\((?:\"[^\"]*\")?\\);).*"), "[]");
        due.same("rule 6: what is caught, the machine's exceptions not", found(code, "\\bcatch\\b(?! \\((?:" + CAUGHT + ") \\w+\\)).*"), "[]");
        due.same("rule 6: words that may not stand",
            found(code, "\\b(?:finally|synchronized|assert|getMessage|try \\(|extends \\w*Exception|boolean equals|hashCode)"), "[]");
        due.same("rule 9: loops without an end", found(code, "while \\(true\\)|for \\(;.*|for \\([^;]*;\\s*;.*"), "[]");
        due.same("rule 10: texts joined by +", found(code, "\"\\s*\\+|\\+\\s*\""), "[]");
        int longest = longestMethod(code);
        due.is("rule 11: at most some sixty lines in a method, here " + longest, longest > 0 && longest <= 60, true);
    }

    private static int longestMethod(String code) {
        int longest = 0;
        Matcher method = Pattern.compile("(?ms)^( +)(?:private|public) [^;={}]*\\) [^;={}]*\\{$.*?^\\1\\}$").matcher(code);
        while (method.find()) {
            longest = Math.max(longest, method.group().split("\n").length);
        }
        return longest;
    }

    private static List<String> foundAll(String text, String pattern) {
        List<String> all = new ArrayList<>();
        Matcher matcher = Pattern.compile(pattern).matcher(text);
        while (matcher.find()) {
            all.add(matcher.group(matcher.groupCount()));
        }
        return all;
    }

    private static String found(String text, String pattern) {
        return foundAll(text, pattern).toString();
    }

    private static void inside(Class<?> one) {
        int how = one.getModifiers();
        due.is("rule 1: " + one.getName() + " is static, and neither public nor protected",
            Modifier.isStatic(how) && !Modifier.isPublic(how) && !Modifier.isProtected(how), true);
    }

    private static void fields(Class<?> one) {
        int kept = 0;
        for (Field field : one.getDeclaredFields()) {
            String name = one.getName() + "." + field.getName();
            if (Modifier.isStatic(field.getModifiers())) {
                due.is("rule 5: " + name, Modifier.isFinal(field.getModifiers()) && CONSTANTS.contains(field.getType()), true);
            } else {
                kept++;
                due.is("rule 3: the type of " + name, mayBeKept(field.getType()), true);
            }
        }
        due.is("rule 11: some twenty fields in " + one.getName(), kept <= 20, true);
    }

    private static boolean mayBeKept(Class<?> type) {
        if (type.isArray()) {
            Class<?> of = type.getComponentType();
            return isOwn(of) || of.isPrimitive() || of.isArray() && of.getComponentType().isPrimitive();
        }
        return isOwn(type) || type.isPrimitive() || LIBRARY.contains(type);
    }

    private static boolean isOwn(Class<?> type) {
        return type.getName().startsWith("RelayStakes");
    }

    private static void parameters(Class<?> one) {
        for (Method method : one.getDeclaredMethods()) {
            atMostSeven(method);
        }
        for (Constructor<?> made : one.getDeclaredConstructors()) {
            atMostSeven(made);
        }
    }

    private static void atMostSeven(Executable call) {
        due.is("rule 11: at most seven parameters for " + call.getName(), call.getParameterCount() <= 7, true);
    }
}
