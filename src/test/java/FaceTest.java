import java.io.IOException;
import java.lang.management.ManagementFactory;
import java.lang.reflect.Constructor;
import java.lang.reflect.InvocationTargetException;
import java.lang.reflect.Member;
import java.lang.reflect.Method;
import java.lang.reflect.Modifier;
import java.nio.file.Files;
import java.nio.file.Path;
import java.util.Arrays;
import java.util.Comparator;
import java.util.StringJoiner;
import java.util.TreeSet;
import java.util.regex.Matcher;
import java.util.regex.Pattern;

/** The public face of the class, calls with any arguments, and the room that a run of calls takes. */
public final class FaceTest {
    private static final Check check = new Check();
    private static final int[] ARGUMENTS = {
        0, 1, 2, 3, 5, 7, 8, 9, 29, 30, 59, 60, 100, 255, 256, 725, 726, 999, -1, -1000,
        Integer.MIN_VALUE, Integer.MIN_VALUE + 1, Integer.MAX_VALUE, Integer.MAX_VALUE - 1};
    private static final String[] TEXTS = {
        "", "7", "A=a+b;!A" + "+A".repeat(14), "A=!!a;!!!!!!!(A" + "+a".repeat(11) + ")",
        "A=1;B=2;C=3;D=4;E=5*A;E-D-C-B-A", "(((((((((", "a" + "*a".repeat(49), "A=a*b;B=A*A;C=B*B;C*C"};

    public static void main(String[] args) throws ReflectiveOperationException, IOException {
        constants();
        members();
        interfaceSays();
        for (String text : TEXTS) {
            for (Method method : calls()) {
                new Any(text, method).callWithAll(0);
            }
        }
        room();
        behindTheLastCall();
        check.end("FaceTest");
    }

    private static void constants() {
        check.due("INVALID_ARGUMENT", LeastPlaces.INVALID_ARGUMENT, Check.INVALID);
        check.due("ILLEGAL_STATE", LeastPlaces.ILLEGAL_STATE, Check.STATE);
        check.due("CAPACITY_EXCEEDED", LeastPlaces.CAPACITY_EXCEEDED, Check.FULL);
        check.due("NONE", LeastPlaces.NONE, Check.NONE);
    }

    private static void members() {
        Class<?> type = LeastPlaces.class;
        check.due("public", type.getModifiers() & Modifier.PUBLIC, Modifier.PUBLIC);
        check.due("final", type.getModifiers() & Modifier.FINAL, Modifier.FINAL);
        TreeSet<String> face = new TreeSet<>();
        addOpen(face, type.getDeclaredFields());
        addOpen(face, type.getDeclaredMethods());
        addOpen(face, type.getDeclaredConstructors());
        String want = "CAPACITY_EXCEEDED ILLEGAL_STATE INVALID_ARGUMENT LeastPlaces/0 NONE append/1 cell/1 "
                + "clearText/0 costWith/1 count/1 enough/0 formula/2 node/3 plan/1 proved/1 read/0 setCell/2 "
                + "setPlaces/1 step/2 turn/2 undo/0 ways/1";
        String got = String.join(" ", face);
        if (!got.equals(want)) {
            System.out.println(got);
        }
        check.due("the face", got.equals(want) ? 1 : 0, 1);
    }

    private static void addOpen(TreeSet<String> face, Member[] members) {
        for (Member member : members) {
            if (!Modifier.isPrivate(member.getModifiers())) {
                String name = member.getName();
                check.due(name + " is public", Modifier.isPublic(member.getModifiers()) ? 1 : 0, 1);
                if (member instanceof Method method) {
                    name += "/" + method.getParameterCount();
                    check.due(name + " returns an int", method.getReturnType() == int.class ? 1 : 0, 1);
                    for (Class<?> taken : method.getParameterTypes()) {
                        check.due(name + " takes ints", taken == int.class ? 1 : 0, 1);
                    }
                }
                if (member instanceof Constructor<?> constructor) {
                    name += "/" + constructor.getParameterCount();
                }
                face.add(name);
            }
        }
    }

    private static void interfaceSays() throws IOException {
        String[][] rows = {
            {"---- sheets", "append", "clearText", "read", "turn", "setCell", "setPlaces", "undo"},
            {"---- looking", "count", "formula", "node", "cell"},
            {"---- plans", "plan", "step", "costWith", "enough", "proved", "ways"}};
        String source = Files.readString(Path.of("src/main/java/LeastPlaces.java"));
        Matcher found = Pattern.compile("// (---- (?:sheets|looking|plans))\n|public int (\\w+)\\(").matcher(source);
        StringJoiner got = new StringJoiner(" ");
        while (found.find()) {
            got.add(found.group(found.group(1) == null ? 2 : 1));
        }
        StringJoiner want = new StringJoiner(" ");
        for (String[] row : rows) {
            String calls = String.join("`, `", Arrays.copyOfRange(row, 1, row.length));
            String words = "Ahead of the calls `" + calls + "` the interface says: " + row[0] + ".";
            new Sentence(check, "Errors", words).due(row[0], got.toString().contains(String.join(" ", row)) ? 1 : 0, 1);
            want.add(String.join(" ", row));
        }
        check.due("all calls in this order: " + got, want.toString().equals(got.toString()) ? 1 : 0, 1);
    }

    private static Method[] calls() {
        Method[] all = Arrays.stream(LeastPlaces.class.getDeclaredMethods())
                .filter(method -> Modifier.isPublic(method.getModifiers())).toArray(Method[]::new);
        Arrays.sort(all, Comparator.comparing(Method::getName));
        return all;
    }

    /** Calls of one method with all arguments that there are, on objects that are used for at most 512 calls. */
    private static final class Any {
        private static final int CALLS = 400;

        private final String text;
        private final Method method;
        private final Object[] arguments;
        private LeastPlaces x;
        private int left;

        Any(String text, Method method) {
            this.text = text;
            this.method = method;
            arguments = new Object[method.getParameterCount()];
        }

        void callWithAll(int next) throws ReflectiveOperationException {
            if (next == arguments.length) {
                check.due(method.getName() + Arrays.toString(arguments) + " throws nothing", throwsNothing(), 1);
                return;
            }
            for (int argument : ARGUMENTS) {
                arguments[next] = argument;
                callWithAll(next + 1);
            }
        }

        private int throwsNothing() throws ReflectiveOperationException {
            if (left == 0) {
                x = new LeastPlaces();
                Check.readText(x, text);
                left = CALLS;
            }
            left--;
            try {
                method.invoke(x, arguments);
                return 1;
            } catch (InvocationTargetException thrown) {
                System.out.println(method.getName() + " threw " + thrown.getCause());
                return 0;
            }
        }
    }

    // ---- what a run of 512 calls makes

    // An object has at least 16 bytes and an element at least one, so that a run with fewer bytes than this
    // has fewer than 600,000 objects and fewer than 7.3 million elements.
    private static final int ROOM = 7_300_000;
    private static final int KINDS_OF_CALLS = 18;
    private static final int ROUNDS = 20;

    // Where one kind of call makes all that a round makes, a run of this kind alone must have room too.
    private static void room() {
        com.sun.management.ThreadMXBean threads =
                (com.sun.management.ThreadMXBean) ManagementFactory.getThreadMXBean();
        long id = Thread.currentThread().getId();
        run();
        long before = threads.getThreadAllocatedBytes(id);
        run();
        long made = threads.getThreadAllocatedBytes(id) - before;
        check.due("room for a run (" + made + " bytes)", made < ROOM / KINDS_OF_CALLS ? 1 : 0, 1);
    }

    private static void run() {
        LeastPlaces x = Check.sheet("A=a+b;B=A*A;B-!A" + "+A".repeat(8));
        for (int i = 0; i < ROUNDS; i++) {
            x.clearText();
            x.append('a');
            x.append('*');
            x.append('b');
            x.read();
            x.turn(0, 0);
            x.setCell(1, 5);
            x.setPlaces(4);
            x.undo();
            x.undo();
            x.undo();
            x.undo();
            x.count(4);
            x.formula(2, 6);
            x.node(2, 1, 3);
            x.cell(2);
            x.plan(1);
            x.step(1, 1);
            x.costWith(2);
            x.enough();
            x.proved(1);
            x.ways(1);
        }
    }

    // What is answered there is free, but no call may throw (LANGUAGE.md, rule 7).
    private static void behindTheLastCall() {
        LeastPlaces x = Check.sheet("a+b*c");
        for (int i = 0; i < 20000; i++) {
            x.append(i % 300);
            x.setCell(i % 9, i % 1001);
            x.turn(0, i % 6);
            x.read();
            if (i % 7 == 0) {
                x.clearText();
                x.undo();
            }
        }
    }
}
