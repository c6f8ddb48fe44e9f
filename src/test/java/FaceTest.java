import java.lang.management.ManagementFactory;
import java.lang.reflect.Field;
import java.lang.reflect.Method;
import java.lang.reflect.Modifier;
import java.util.Set;
import java.util.TreeSet;

/** The public face, and what a run of calls makes. */
public final class FaceTest {
    private static final String[] FACE = {
        "int type(long,int)", "int hall()", "int block(int,int)", "int order(int,int)", "int bar(int,int,int)",
        "int need(int)", "int strike(int,int)", "int lot(int,int)", "int lots(int,int,int,int)", "int begin()",
        "int ballots(int)", "int count(int)", "int chosen()", "int many(int)", "int ends(int)", "int ring(int)",
        "long chance(int,int,int)", "int can(int,int)", "int makes(int,int)", "int stops(int)", "int rather(int,int)",
        "int beats(int)", "int waits(int,int)", "int aside(int)", "int edge(int)", "int judge(int,int,int,int)",
        "int image()", "int restore()", "int sheet(int,int,int)", "int drop(int)", "int item(int,int,int,int)"};
    private static final String[] CONSTANTS = {"BAD", "NOT", "FULL", "NONE", "NULL", "CAST", "INDEX", "SIZE"};
    private static final int[] VALUES = {-1, -2, -3, -4, -11, -12, -13, -14};

    private static void due(String what, boolean holds) {
        Checks.due(what, holds ? 1 : 0, 1);
    }

    private static String signature(Method method) {
        StringBuilder text = new StringBuilder();
        text.append(method.getReturnType().getSimpleName()).append(' ').append(method.getName()).append('(');
        for (Class<?> type : method.getParameterTypes()) {
            text.append(text.charAt(text.length() - 1) == '(' ? "" : ",").append(type.getSimpleName());
        }
        return text.append(')').toString();
    }

    private static void face() throws Exception {
        Set<String> open = new TreeSet<>();
        Set<String> publicNames = new TreeSet<>();
        for (Method method : SmokeHall.class.getDeclaredMethods()) {
            if (!Modifier.isPrivate(method.getModifiers())) {
                due("public: " + method, Modifier.isPublic(method.getModifiers()));
                open.add(signature(method));
                publicNames.add(method.getName());
            }
        }
        due("the methods of the face, no other", open.equals(new TreeSet<>(Set.of(FACE))));
        for (Method method : SmokeHall.class.getDeclaredMethods()) {
            boolean isPrivate = Modifier.isPrivate(method.getModifiers());
            due("no private " + method.getName(), !isPrivate || !publicNames.contains(method.getName()));
        }
        Set<String> fields = new TreeSet<>();
        for (Field field : SmokeHall.class.getDeclaredFields()) {
            if (!Modifier.isPrivate(field.getModifiers())) {
                fields.add(field.getName());
            }
        }
        due("the constants, no other field", fields.equals(new TreeSet<>(Set.of(CONSTANTS))));
        for (int i = 0; i < CONSTANTS.length; i++) {
            Checks.due(CONSTANTS[i], SmokeHall.class.getField(CONSTANTS[i]).getInt(null), VALUES[i]);
        }
        due("final", Modifier.isFinal(SmokeHall.class.getModifiers()));
        due("one constructor", SmokeHall.class.getDeclaredConstructors().length == 1);
        for (Class<?> inside : SmokeHall.class.getDeclaredClasses()) {
            due("static: " + inside, Modifier.isStatic(inside.getModifiers()));
        }
        due("classes", SmokeHall.class.getDeclaredClasses().length <= 12);
    }

    /** A thousand dear calls may not make what would fill the room. */
    private static void room() {
        com.sun.management.ThreadMXBean bean = (com.sun.management.ThreadMXBean) ManagementFactory.getThreadMXBean();
        SmokeHall x = Checks.of("9k2:bcaed;4n:acbde;3n:ecdab;1o0:cdabe;14k2:edbca;18o3:daceb");
        for (int day = 0; day < 8; day++) {
            x.bar(day, 1, 1);
        }
        x.chance(0, 12, 0);
        long before = bean.getThreadAllocatedBytes(Thread.currentThread().getId());
        for (int i = 0; i < 50; i++) {
            x.chance(i % 5, 12, 0);
            x.aside(0);
            x.edge(i % 6);
            x.waits(i % 6, 0);
            x.ends(0);
            x.image();
            x.restore();
            x.sheet(0, 2, 24);
            x.judge(0, 2, 0, 4);
        }
        long made = bean.getThreadAllocatedBytes(Thread.currentThread().getId()) - before;
        due("calls make next to nothing: " + made, made < 100000);
    }

    public static void main(String[] args) throws Exception {
        face();
        room();
        Checks.finish("FaceTest");
    }
}
