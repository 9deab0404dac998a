import java.io.IOException;
import java.lang.reflect.Constructor;
import java.lang.reflect.Field;
import java.lang.reflect.Method;
import java.lang.reflect.Modifier;
import java.nio.file.Files;
import java.nio.file.Path;
import java.util.ArrayList;
import java.util.List;
import java.util.Set;
import java.util.TreeSet;

/** The face of the class is the document's, member for member, and nothing else can be seen. */
public final class FaceTest {
    public static void main(String[] args) throws IOException {
        Check.due("modifiers", Modifier.toString(Followrow.class.getModifiers()), "public final");
        Check.due("NONE", Followrow.NONE, -1);
        Set<String> due = document(Path.of("../shared/DOC.md"));
        Set<String> seen = members();
        Check.due("members in the document", due.size(), 26);
        for (String member : seen) {
            Check.due("in the document: " + member, due.contains(member), true);
        }
        for (String member : due) {
            Check.due("in the class: " + member, seen.contains(member), true);
        }
        Check.end();
    }

    // The members between the braces of the document's class, without names of parameters.
    private static Set<String> document(Path path) throws IOException {
        Set<String> due = new TreeSet<>();
        boolean inFace = false;
        for (String line : Files.readAllLines(path)) {
            if (line.startsWith("}")) {
                inFace = false;
            } else if (inFace) {
                due.add(line.trim().replaceAll("(int|boolean) \\w+([,)])", "$1$2"));
            } else if (line.equals("public final class Followrow {")) {
                inFace = true;
            }
        }
        return due;
    }

    private static Set<String> members() {
        Set<String> seen = new TreeSet<>();
        for (Method method : Followrow.class.getDeclaredMethods()) {
            if (!Modifier.isPrivate(method.getModifiers())) {
                String thrown = names(method.getExceptionTypes());
                seen.add(Modifier.toString(method.getModifiers()) + " "
                        + method.getReturnType().getName() + " " + method.getName()
                        + "(" + names(method.getParameterTypes()) + ")"
                        + (thrown.isEmpty() ? "" : " throws ") + thrown + ";");
            }
        }
        for (Constructor<?> constructor : Followrow.class.getDeclaredConstructors()) {
            if (!Modifier.isPrivate(constructor.getModifiers())) {
                seen.add(Modifier.toString(constructor.getModifiers()) + " Followrow("
                        + names(constructor.getParameterTypes()) + ");");
            }
        }
        for (Field field : Followrow.class.getDeclaredFields()) {
            if (!Modifier.isPrivate(field.getModifiers())) {
                seen.add(Modifier.toString(field.getModifiers()) + " " + field.getType().getName()
                        + " " + field.getName() + " = " + Followrow.NONE + ";");
            }
        }
        return seen;
    }

    private static String names(Class<?>[] types) {
        List<String> names = new ArrayList<>();
        for (Class<?> type : types) {
            names.add(type.getSimpleName());
        }
        return String.join(", ", names);
    }
}
