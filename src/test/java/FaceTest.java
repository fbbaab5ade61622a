import java.lang.reflect.Constructor;
import java.lang.reflect.Field;
import java.lang.reflect.Method;
import java.lang.reflect.Modifier;
import java.util.ArrayList;
import java.util.Arrays;
import java.util.List;

/** The face of the class is the one of the document, and nothing besides. */
public final class FaceTest {
    private static final String INDEX = " throws IndexOutOfBoundsException";
    private static final String ARGUMENT = " throws IllegalArgumentException";
    private static final String[] FACE = {
        "int cell(int, int, int, int)" + ARGUMENT + ", IllegalStateException",
        "boolean turn(int)" + INDEX,
        "int tune(int, int)" + INDEX + ", IllegalArgumentException",
        "int walker(int, int, int)" + ARGUMENT + ", IllegalStateException",
        "void move(int, int, int)" + INDEX + ", IllegalArgumentException",
        "int margin(int)" + ARGUMENT,
        "int patience(int)" + ARGUMENT,
        "int bound(int)" + ARGUMENT,
        "int tick(int)" + ARGUMENT,
        "int ticks()", "int cells()", "int walkers()",
        "int signal(int, int)" + INDEX,
        "int quality(int, int)" + INDEX,
        "int load(int)" + INDEX,
        "int use(int)" + INDEX,
        "int servedBy(int)" + INDEX,
        "int favourite(int)" + INDEX,
        "int heldFor(int)" + INDEX,
        "int handovers()", "int rings()", "int losses()", "int unserved()",
        "int mostServed()", "int mostDemand()",
        "int bestCell(int)" + INDEX};

    public static void main(String[] args) {
        Class<?> face = CellPlanner.class;
        Check.equal("the class is public and final",
                Modifier.PUBLIC | Modifier.FINAL, face.getModifiers());
        checkConstructors(face);
        checkFields(face);
        checkMethods(face);
        Check.end("FaceTest");
    }

    private static void checkConstructors(Class<?> face) {
        Constructor<?>[] all = face.getDeclaredConstructors();
        Check.equal("one constructor", 1, all.length);
        Check.equal("it takes nothing", 0, all[0].getParameterCount());
        Check.equal("it is public", Modifier.PUBLIC, all[0].getModifiers());
    }

    private static void checkFields(Class<?> face) {
        for (Field field : face.getDeclaredFields()) {
            boolean constant = field.getName().equals("NONE");
            int due = constant ? Modifier.PUBLIC | Modifier.STATIC | Modifier.FINAL : Modifier.PRIVATE;
            int asked = constant ? ~0 : Modifier.PUBLIC | Modifier.PROTECTED | Modifier.PRIVATE;
            Check.equal("who may use " + field.getName(), due, field.getModifiers() & asked);
        }
    }

    private static void checkMethods(Class<?> face) {
        List<String> due = new ArrayList<>(Arrays.asList(FACE));
        List<String> names = new ArrayList<>();
        for (Method method : face.getDeclaredMethods()) {
            if (Modifier.isPrivate(method.getModifiers())) {
                continue;
            }
            names.add(method.getName());
            Check.equal("public alone: " + method.getName(), Modifier.PUBLIC, method.getModifiers());
            Check.holds("of the document: " + describe(method), due.remove(describe(method)));
        }
        Check.equal("missing: " + due, 0, due.size());
        for (Method method : face.getDeclaredMethods()) {
            Check.holds("a private method named " + method.getName(),
                    !Modifier.isPrivate(method.getModifiers()) || !names.contains(method.getName()));
        }
    }

    private static String describe(Method method) {
        StringBuilder text = new StringBuilder();
        text.append(method.getReturnType().getSimpleName()).append(' ').append(method.getName());
        text.append('(').append(simpleNames(method.getParameterTypes())).append(')');
        if (method.getExceptionTypes().length > 0) {
            text.append(" throws ").append(simpleNames(method.getExceptionTypes()));
        }
        return text.toString();
    }

    private static String simpleNames(Class<?>[] types) {
        List<String> names = new ArrayList<>();
        for (Class<?> type : types) {
            names.add(type.getSimpleName());
        }
        return String.join(", ", names);
    }
}
