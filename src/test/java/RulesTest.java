import java.io.IOException;
import java.nio.file.Files;
import java.nio.file.Path;
import java.util.regex.Matcher;
import java.util.regex.Pattern;

/** Those rules of LANGUAGE.md that can be seen in the program's text. */
public final class RulesTest {
    private static final Check check = new Check();

    public static void main(String[] args) throws IOException {
        String whole = Files.readString(Path.of("src/main/java/LeastPlaces.java"));
        check.due("signs 1 to 127", whole.chars().filter(sign -> sign > 127).count(), 0);
        String code = whole.replaceAll("(?s)/\\*.*?\\*/", "").replaceAll("//[^\n]*", "");
        for (String word : new String[] {"package", "import", "throw", "throws", "try", "catch", "synchronized",
            "assert", "native", "protected", "volatile", "var", "double", "float", "Object", "hashCode", "toString",
            "System\\.(?!arraycopy)", "Exact", "Random", "Thread", "static \\{", "->", "::", "\""}) {
            dueAbsent(code, word);
        }
        privateNames(code);
        shortMethods(whole);
        check.end("RulesTest");
    }

    private static void dueAbsent(String code, String word) {
        String bounded = Character.isLetter(word.charAt(0)) ? "\\b" + word : word;
        String whole = word.matches("[a-zA-Z]+") ? bounded + "\\b" : bounded;
        check.due("rule: no " + word, Pattern.compile(whole).matcher(code).find() ? 1 : 0, 0);
    }

    private static void privateNames(String code) {
        Matcher made = Pattern.compile("private (?:static )?[\\w\\[\\]]+ (\\w+)\\(").matcher(code);
        while (made.find()) {
            boolean open = code.contains("public int " + made.group(1) + "(");
            check.due("rule 1: private " + made.group(1), open ? 1 : 0, 0);
        }
    }

    private static void shortMethods(String whole) {
        int since = 0;
        int most = 0;
        for (String line : whole.split("\n")) {
            boolean head = line.matches(" {4,8}(private|public) .*\\) \\{");
            since = head ? 0 : since + 1;
            if (line.matches(" {4,8}\\}")) {
                most = Math.max(most, since);
            }
        }
        check.due("rule 11: lines of a method, " + most, most <= 60 ? 1 : 0, 1);
    }
}
