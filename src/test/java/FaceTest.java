import java.lang.reflect.Constructor;
import java.lang.reflect.Field;
import java.lang.reflect.Method;
import java.lang.reflect.Modifier;
import java.util.Arrays;
import java.util.TreeSet;

/** The class has the document's face, with its throws clauses, and no other member that can be seen. */
final class FaceTest {
    private static final String B = "IndexOutOfBoundsException";
    private static final String A = "IllegalArgumentException";
    private static final String S = "IllegalStateException";

    private static final String[] FACE = {
        "int append(int, int, int) " + B + " " + A + " " + S,
        "int read(int) " + B + " " + S,
        "int sendBarrier(int) " + B + " " + S,
        "int take(int, int) " + B + " " + S,
        "int pump(int) " + A,
        "int commit(int) " + B + " " + S,
        "int beginCheckpoint() " + S,
        "int abandon() " + S,
        "int crash()",
        "int rescale(int) " + A,
        "int events(int) " + B,
        "int offset(int) " + B,
        "int eventAt(int, int) " + B,
        "int queued(int, int) " + B,
        "int itemAt(int, int, int) " + B,
        "boolean isBlocked(int, int) " + B,
        "int workers()",
        "int workerOf(int) " + B,
        "int groupsOf(int) " + B,
        "int count(int) " + B,
        "int sum(int) " + B,
        "int open(int) " + B,
        "int sealed(int) " + B,
        "int underWay()",
        "int complete()",
        "boolean hasSent(int) " + B,
        "int keptOffset(int) " + B,
        "int keptSum(int) " + B,
        "int committedCount(int) " + B,
        "int committedSum(int) " + B,
        "int committed()",
        "int readSum(int) " + B,
        "int sumInChannels(int) " + B,
    };

    private static final Check CHECK = new Check("FaceTest");

    public static void main(String[] args) {
        Class<CheckpointedStream> face = CheckpointedStream.class;
        CHECK.sentence("the class is public and final", () -> CHECK.same("modifiers", face.getModifiers(),
                Modifier.PUBLIC | Modifier.FINAL));
        CHECK.sentence("the methods are those of the document, with their throws", () -> methods(face));
        CHECK.sentence("NONE is the one constant, and no field is seen", () -> constantsAndFields(face));
        CHECK.sentence("there is one constructor", () -> constructors(face));
        CHECK.finish();
    }

    private static void methods(Class<?> face) {
        TreeSet<String> seen = new TreeSet<>();
        TreeSet<String> publicNames = new TreeSet<>();
        TreeSet<String> privateNames = new TreeSet<>();
        for (Method method : face.getDeclaredMethods()) {
            if (method.isSynthetic()) {
                continue;
            }
            if (Modifier.isPrivate(method.getModifiers())) {
                privateNames.add(method.getName());
                continue;
            }
            publicNames.add(method.getName());
            CHECK.same(method.getName() + " is public alone", method.getModifiers(), Modifier.PUBLIC);
            seen.add(signatureOf(method));
        }
        CHECK.sameText("methods", seen.toString(), new TreeSet<>(Arrays.asList(FACE)).toString());
        for (Class<?> inside : face.getDeclaredClasses()) {
            for (Method method : inside.getDeclaredMethods()) {
                privateNames.add(method.getName());
            }
        }
        privateNames.retainAll(publicNames);
        CHECK.sameText("names of the face inside", privateNames.toString(), "[]");
    }

    private static String signatureOf(Method method) {
        StringBuilder text = new StringBuilder();
        text.append(method.getReturnType().getSimpleName()).append(' ').append(method.getName()).append('(');
        Class<?>[] parameters = method.getParameterTypes();
        for (int i = 0; i < parameters.length; i++) {
            text.append(i == 0 ? "" : ", ").append(parameters[i].getSimpleName());
        }
        text.append(')');
        for (Class<?> thrown : method.getExceptionTypes()) {
            text.append(' ').append(thrown.getSimpleName());
        }
        return text.toString();
    }

    private static void constantsAndFields(Class<?> face) {
        CHECK.same("NONE", CheckpointedStream.NONE, -1);
        for (Field field : face.getDeclaredFields()) {
            int due = field.getName().equals("NONE")
                    ? Modifier.PUBLIC | Modifier.STATIC | Modifier.FINAL
                    : Modifier.PRIVATE;
            int hidden = Modifier.PUBLIC | Modifier.PROTECTED | Modifier.PRIVATE;
            int got = field.getModifiers();
            CHECK.same(field.getName() + " modifiers",
                    field.getName().equals("NONE") ? got : got & hidden, due);
            CHECK.yes(field.getName() + " is no static state",
                    !Modifier.isStatic(got) || Modifier.isFinal(got));
        }
    }

    private static void constructors(Class<?> face) {
        Constructor<?>[] all = face.getDeclaredConstructors();
        CHECK.same("constructors", all.length, 1);
        CHECK.same("constructor is public", all[0].getModifiers(), Modifier.PUBLIC);
        CHECK.same("constructor's parameters", all[0].getParameterCount(), 0);
        CHECK.same("constructor's throws", all[0].getExceptionTypes().length, 0);
    }
}
