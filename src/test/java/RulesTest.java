import java.io.IOException;
import java.lang.reflect.Constructor;
import java.lang.reflect.Field;
import java.lang.reflect.Method;
import java.lang.reflect.Modifier;
import java.nio.file.Files;
import java.nio.file.Path;
import java.util.ArrayList;
import java.util.Arrays;
import java.util.List;
import java.util.regex.Matcher;
import java.util.regex.Pattern;

/** Those rules of LANGUAGE.md that can be seen in the program's text or in its classes. */
public final class RulesTest {
    private static final Check check = new Check();
    private static final Class<?> TYPE = LeastPlaces.class;

    public static void main(String[] args) throws IOException {
        String whole = Files.readString(Path.of("src/main/java/LeastPlaces.java"));
        String code = whole.replaceAll("(?s)/\\*.*?\\*/", "").replaceAll("//[^\n]*", "");
        check.due("rule 4: signs 1 to 127", code.chars().filter(sign -> sign > 127).count(), 0);
        words(code);
        String ownNames = code.replaceAll("\\bimport java\\.util\\.(ArrayList|List|Iterator|Arrays);", "");
        check.due("rule 4: no other library", found("\\bimport\\b|\\bjavax?\\.", ownNames), 0);
        check.due("rule 2: no lambda", found("->", code.replaceAll("\\b(case [^\n]*?|default )->", "")), 0);
        privateNames(code);
        shortMethods(whole);
        for (Class<?> type : classes()) {
            size(type);
            statics(type);
        }
        check.end("RulesTest");
    }

    private static int found(String pattern, String code) {
        return Pattern.compile(pattern).matcher(code).find() ? 1 : 0;
    }

    private static void words(String code) {
        dueAbsent("the opening", code, "package");
        dueAbsent("rule 1", code, "protected");
        dueAbsent("rule 2", code, "::");
        dueAbsent("rule 3", code, "Object");
        dueAbsent("rule 4", code, "System\\.(?!arraycopy)", "\\w+Exact\\b");
        dueAbsent("rule 5", code, "static \\{");
        dueAbsent("rule 6", code, "throw", "throws", "try", "catch", "synchronized", "assert", "hashCode",
                "String toString\\(", "boolean equals\\(");
        dueAbsent("rule 13", code, "Thread", "Runtime", "Process", "ProcessBuilder");
    }

    private static void dueAbsent(String rule, String code, String... words) {
        for (String word : words) {
            String pattern = word.matches("[a-zA-Z]+") ? "\\b" + word + "\\b" : word;
            check.due(rule + ": no " + word, found(pattern, code), 0);
        }
    }

    private static void privateNames(String code) {
        Matcher made = Pattern.compile("private (?:static )?[\\w\\[\\]]+ (\\w+)\\(").matcher(code);
        while (made.find()) {
            boolean open = code.contains("public int " + made.group(1) + "(");
            check.due("rule 1: private " + made.group(1), open ? 1 : 0, 0);
        }
    }

    private static void shortMethods(String whole) {
        int since = 0;
        int most = 0;
        for (String line : whole.split("\n")) {
            boolean head = line.matches(" {4,8}(private|public) .*\\) \\{");
            since = head ? 0 : since + 1;
            if (line.matches(" {4,8}\\}")) {
                most = Math.max(most, since);
            }
        }
        check.due("rule 11: lines of a method, " + most, most <= 60 ? 1 : 0, 1);
    }

    // ---- classes

    private static List<Class<?>> classes() {
        List<Class<?>> all = new ArrayList<>(List.of(TYPE));
        for (int i = 0; i < all.size(); i++) {
            all.addAll(Arrays.asList(all.get(i).getDeclaredClasses()));
        }
        check.due("rule 11: classes, " + all.size(), all.size() <= 12 ? 1 : 0, 1);
        return all;
    }

    private static void size(Class<?> type) {
        long fields = Arrays.stream(type.getDeclaredFields())
                .filter(field -> !Modifier.isStatic(field.getModifiers())).count();
        check.due("rule 11: fields of " + type.getName() + ", " + fields, fields <= 20 ? 1 : 0, 1);
        for (Method method : type.getDeclaredMethods()) {
            check.due("rule 11: parameters of " + method, method.getParameterCount() <= 7 ? 1 : 0, 1);
        }
        for (Constructor<?> constructor : type.getDeclaredConstructors()) {
            check.due("rule 11: parameters of " + constructor, constructor.getParameterCount() <= 7 ? 1 : 0, 1);
        }
    }

    private static void statics(Class<?> type) {
        for (Field field : type.getDeclaredFields()) {
            boolean fixed = !Modifier.isStatic(field.getModifiers()) || Modifier.isFinal(field.getModifiers());
            check.due("rule 5: a static field is final, " + field, fixed ? 1 : 0, 1);
        }
        if (type != TYPE) {
            check.due("rule 2: static, " + type.getName(), Modifier.isStatic(type.getModifiers()) ? 1 : 0, 1);
            check.due("rule 1: not public, " + type.getName(), Modifier.isPublic(type.getModifiers()) ? 1 : 0, 0);
        }
    }
}
