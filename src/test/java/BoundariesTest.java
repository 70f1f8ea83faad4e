import java.io.IOException;
import java.lang.reflect.Constructor;
import java.lang.reflect.Field;
import java.lang.reflect.Method;
import java.lang.reflect.Modifier;
import java.util.TreeSet;

/** Sentence by sentence of the document: each boundary case that it names; and its face, line by line. */
public final class BoundariesTest {
    private BoundariesTest() {
    }

    public static void main(String[] args) throws IOException {
        Check check = new Check("BoundariesTest");
        Said said = new Said(check);
        new TextBoundaries(said).test();
        new ActBoundaries(said).test();
        new SearchBoundaries(said).test();
        new FindBoundaries(said).test();
        face(check, said.face());
        said.end();
        check.end();
    }

    /** All that is public, as the document writes it, but for the names of arguments. */
    private static void face(Check check, TreeSet<String> due) {
        TreeSet<String> face = new TreeSet<>();
        for (Field field : ScentCourt.class.getFields()) {
            face.add(Modifier.toString(field.getModifiers()) + " " + field.getType() + " " + field.getName());
        }
        for (Constructor<?> constructor : ScentCourt.class.getConstructors()) {
            face.add("public ScentCourt" + arguments(constructor.getParameterTypes(), constructor.getExceptionTypes()));
        }
        for (Method method : ScentCourt.class.getDeclaredMethods()) {
            if (Modifier.isPublic(method.getModifiers())) {
                face.add("public " + method.getReturnType() + " " + method.getName()
                        + arguments(method.getParameterTypes(), method.getExceptionTypes()));
            }
        }
        if (!due.isEmpty()) {
            check.same("what of the face is missing in " + face, face.containsAll(due), true);
            check.same("what is more than the face " + due, due.containsAll(face), true);
        }
        check.same("lines of the face", face.size(), 49);
        check.same("NONE", ScentCourt.NONE, -1);
    }

    private static String arguments(Class<?>[] types, Class<?>[] exceptions) {
        StringBuilder arguments = new StringBuilder("(");
        for (Class<?> type : types) {
            arguments.append(arguments.length() > 1 ? ", " : "").append(type);
        }
        arguments.append(')');
        for (Class<?> exception : exceptions) {
            arguments.append(" throws ").append(exception.getSimpleName());
        }
        return arguments.toString();
    }
}
