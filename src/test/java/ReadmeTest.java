import java.io.IOException;
import java.lang.reflect.Method;
import java.nio.file.Files;
import java.nio.file.Path;
import java.util.Arrays;
import java.util.regex.Matcher;
import java.util.regex.Pattern;

/** That README.md's example answers as it says, and that it tells of each call and of each error code. */
public final class ReadmeTest {
    private static final Check check = new Check();

    public static void main(String[] args) throws IOException, ReflectiveOperationException {
        String readme = Files.readString(Path.of("README.md"));
        example(readme.substring(readme.indexOf("```java"), readme.indexOf("### An object")));
        for (String call : Document.calls()) {
            dueWords(readme, "`" + call + "`");
        }
        dueWords(readme, "INVALID_ARGUMENT` | " + LeastPlaces.INVALID_ARGUMENT);
        dueWords(readme, "ILLEGAL_STATE` | " + LeastPlaces.ILLEGAL_STATE);
        dueWords(readme, "CAPACITY_EXCEEDED` | " + LeastPlaces.CAPACITY_EXCEEDED);
        dueWords(readme, "NONE` | " + LeastPlaces.NONE);
        dueWords(readme, "at most 512 calls");
        dueWords(readme, ".ci/run");
        check.end("ReadmeTest");
    }

    private static void dueWords(String readme, String words) {
        check.due("README.md tells of " + words, readme.contains(words) ? 1 : 0, 1);
    }

    /** A text in quotes that is typed, and then lines such as "x.cell(0);  // 3". */
    private static void example(String block) throws ReflectiveOperationException {
        LeastPlaces x = new LeastPlaces();
        Check.type(x, block.replaceAll("(?s)^.*?\"(.*?)\".*$", "$1"));
        Matcher line = Pattern.compile("\nx\\.(\\w+)\\((.*?)\\); *// (-?\\d+)").matcher(block);
        int lines = 0;
        while (line.find()) {
            lines++;
            int[] arguments = Arrays.stream(line.group(2).split(", ")).filter(number -> !number.isEmpty())
                    .mapToInt(Integer::parseInt).toArray();
            check.due("README.md's " + line.group().trim(), call(x, line.group(1), arguments),
                    Integer.parseInt(line.group(3)));
        }
        check.due("README.md's lines with an answer", lines, block.lines().filter(any -> any.contains("// ")).count());
    }

    private static int call(LeastPlaces x, String name, int[] arguments) throws ReflectiveOperationException {
        Class<?>[] types = new Class<?>[arguments.length];
        Arrays.fill(types, int.class);
        Method method = LeastPlaces.class.getMethod(name, types);
        return (int) method.invoke(x, Arrays.stream(arguments).boxed().toArray());
    }
}
