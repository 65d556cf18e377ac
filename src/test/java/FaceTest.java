import java.lang.management.ManagementFactory;
import java.lang.reflect.Constructor;
import java.lang.reflect.Field;
import java.lang.reflect.InvocationTargetException;
import java.lang.reflect.Member;
import java.lang.reflect.Method;
import java.lang.reflect.Modifier;
import java.util.Arrays;
import java.util.Comparator;
import java.util.TreeSet;

/** The public face of the class, calls with any arguments, and the objects that calls make. */
public final class FaceTest {
    private static final Check check = new Check();
    private static final int[] ARGUMENTS = {
        0, 1, 2, 3, 5, 7, 8, 9, 29, 30, 59, 60, 100, 255, 256, 725, 726, 999, -1, -1000,
        Integer.MIN_VALUE, Integer.MIN_VALUE + 1, Integer.MAX_VALUE, Integer.MAX_VALUE - 1};
    private static final String[] TEXTS = {
        "", "7", "A=a+b;!A" + "+A".repeat(14), "A=!!a;!!!!!!!(A" + "+a".repeat(11) + ")",
        "A=1;B=2;C=3;D=4;E=5*A;E-D-C-B-A", "(((((((((", "a" + "*a".repeat(49), "A=a*b;B=A*A;C=B*B;C*C"};

    public static void main(String[] args) throws ReflectiveOperationException {
        constants();
        members();
        anyArguments();
        noObjects();
        manyCalls();
        check.end("FaceTest");
    }

    private static void constants() {
        check.due("INVALID_ARGUMENT", LeastPlaces.INVALID_ARGUMENT, Check.INVALID);
        check.due("ILLEGAL_STATE", LeastPlaces.ILLEGAL_STATE, Check.STATE);
        check.due("CAPACITY_EXCEEDED", LeastPlaces.CAPACITY_EXCEEDED, Check.FULL);
        check.due("NONE", LeastPlaces.NONE, Check.NONE);
    }

    private static void members() {
        Class<?> type = LeastPlaces.class;
        check.due("final", type.getModifiers() & Modifier.FINAL, Modifier.FINAL);
        TreeSet<String> face = new TreeSet<>();
        addOpen(face, type.getDeclaredFields());
        addOpen(face, type.getDeclaredMethods());
        addOpen(face, type.getDeclaredConstructors());
        String want = "CAPACITY_EXCEEDED ILLEGAL_STATE INVALID_ARGUMENT LeastPlaces/0 NONE append/1 cell/1 "
                + "clearText/0 costWith/1 count/1 enough/0 formula/2 node/3 plan/1 proved/1 read/0 setCell/2 "
                + "setPlaces/1 step/2 turn/2 undo/0 ways/1";
        String got = String.join(" ", face);
        if (!got.equals(want)) {
            System.out.println(got);
        }
        check.due("the face", got.equals(want) ? 1 : 0, 1);
        for (Field field : type.getDeclaredFields()) {
            boolean fixed = !Modifier.isStatic(field.getModifiers()) || Modifier.isFinal(field.getModifiers());
            check.due("a static field is final: " + field.getName(), fixed ? 1 : 0, 1);
        }
        for (Class<?> inside : type.getDeclaredClasses()) {
            check.due("static: " + inside.getName(), Modifier.isStatic(inside.getModifiers()) ? 1 : 0, 1);
            check.due("not public: " + inside.getName(), Modifier.isPublic(inside.getModifiers()) ? 1 : 0, 0);
        }
    }

    private static void addOpen(TreeSet<String> face, Member[] members) {
        for (Member member : members) {
            if (!Modifier.isPrivate(member.getModifiers())) {
                String name = member.getName();
                if (member instanceof Method method) {
                    name += "/" + method.getParameterCount();
                    check.due(name + " returns an int", method.getReturnType() == int.class ? 1 : 0, 1);
                }
                if (member instanceof Constructor<?> constructor) {
                    name += "/" + constructor.getParameterCount();
                }
                face.add(name);
            }
        }
    }

    private static Method[] calls() {
        Method[] all = Arrays.stream(LeastPlaces.class.getDeclaredMethods())
                .filter(method -> Modifier.isPublic(method.getModifiers())).toArray(Method[]::new);
        Arrays.sort(all, Comparator.comparing(Method::getName));
        return all;
    }

    private static void anyArguments() throws ReflectiveOperationException {
        for (String text : TEXTS) {
            LeastPlaces x = new LeastPlaces();
            Check.readText(x, text);
            for (Method method : calls()) {
                callWithAll(x, method, new Object[method.getParameterCount()], 0);
            }
        }
    }

    private static void callWithAll(LeastPlaces x, Method method, Object[] arguments, int next)
            throws ReflectiveOperationException {
        if (next == arguments.length) {
            check.due(method.getName() + Arrays.toString(arguments), throwsNothing(x, method, arguments), 1);
            return;
        }
        for (int argument : ARGUMENTS) {
            arguments[next] = argument;
            callWithAll(x, method, arguments, next + 1);
        }
    }

    private static int throwsNothing(LeastPlaces x, Method method, Object[] arguments)
            throws ReflectiveOperationException {
        try {
            method.invoke(x, arguments);
            return 1;
        } catch (InvocationTargetException thrown) {
            System.out.println(method.getName() + " threw " + thrown.getCause());
            return 0;
        }
    }

    // Some bytes are the machine's own, so that only what grows with the calls is looked at.
    private static void noObjects() {
        com.sun.management.ThreadMXBean threads =
                (com.sun.management.ThreadMXBean) ManagementFactory.getThreadMXBean();
        LeastPlaces x = new LeastPlaces();
        callAll(x);
        long id = Thread.currentThread().getId();
        long before = threads.getThreadAllocatedBytes(id);
        for (int i = 0; i < 400; i++) {
            callAll(x);
        }
        long made = threads.getThreadAllocatedBytes(id) - before;
        check.due("calls make no objects (" + made + " bytes)", made < 4000 ? 1 : 0, 1);
    }

    private static void callAll(LeastPlaces x) {
        x.clearText();
        x.append('a');
        x.append('*');
        x.append('b');
        x.read();
        x.turn(0, 0);
        x.setCell(1, 5);
        x.setPlaces(4);
        x.count(4);
        x.formula(0, 6);
        x.node(0, 1, 3);
        x.cell(2);
        x.plan(1);
        x.step(1, 1);
        x.costWith(2);
        x.enough();
        x.proved(0);
        x.ways(0);
        x.undo();
    }

    // Answers are free behind the 512th call, but no call may throw there either.
    private static void manyCalls() {
        LeastPlaces x = Check.sheet("a+b*c");
        for (int i = 0; i < 20000; i++) {
            x.append(i % 300);
            x.setCell(i % 9, i % 1001);
            x.turn(0, i % 6);
            x.read();
            if (i % 7 == 0) {
                x.clearText();
                x.undo();
            }
        }
        check.due("still there", x.count(6) >= 0 ? 1 : 0, 1);
    }
}
