import java.lang.reflect.Constructor;
import java.lang.reflect.Field;
import java.lang.reflect.Method;
import java.lang.reflect.Modifier;
import java.util.ArrayList;
import java.util.Arrays;
import java.util.List;
import java.util.TreeSet;

/** The face of the class is the document's, member for member, and nothing else can be seen. */
public final class FaceTest {
    private static final String INDEX = "IndexOutOfBoundsException";
    private static final String ARGUMENT = "IllegalArgumentException";
    private static final String STATE = "IllegalStateException";

    public static void main(String[] args) {
        Check.due("modifiers", Modifier.toString(Followrow.class.getModifiers()), "public final");
        Check.due("NONE", Followrow.NONE, -1);
        members();
        classesInside();
        Check.end();
    }

    private static void members() {
        TreeSet<String> seen = new TreeSet<>();
        for (Method method : Followrow.class.getDeclaredMethods()) {
            if (!Modifier.isPrivate(method.getModifiers())) {
                seen.add(Modifier.toString(method.getModifiers()) + " "
                        + method.getReturnType().getName() + " " + method.getName()
                        + names(method.getParameterTypes()) + names(method.getExceptionTypes()));
            }
        }
        for (Constructor<?> constructor : Followrow.class.getDeclaredConstructors()) {
            if (!Modifier.isPrivate(constructor.getModifiers())) {
                seen.add(Modifier.toString(constructor.getModifiers())
                        + names(constructor.getParameterTypes()));
            }
        }
        for (Field field : Followrow.class.getDeclaredFields()) {
            if (!Modifier.isPrivate(field.getModifiers())) {
                seen.add(Modifier.toString(field.getModifiers()) + " "
                        + field.getType().getName() + " " + field.getName());
            }
        }
        TreeSet<String> due = due();
        for (String member : seen) {
            Check.due("in the document: " + member, due.contains(member), true);
        }
        for (String member : due) {
            Check.due("in the class: " + member, seen.contains(member), true);
        }
    }

    private static TreeSet<String> due() {
        TreeSet<String> due = new TreeSet<>();
        due.add("public static final int NONE");
        due.add("public()");
        add(due, "int follow", "int,int", INDEX, ARGUMENT, STATE);
        add(due, "int unfollow", "int,int", INDEX, STATE);
        add(due, "boolean mute", "int,int,boolean", INDEX, ARGUMENT);
        add(due, "boolean block", "int,int,boolean", INDEX, ARGUMENT);
        add(due, "int post", "int", INDEX, STATE);
        add(due, "int repost", "int,int", INDEX, STATE);
        add(due, "int delete", "int", INDEX, STATE);
        add(due, "int setMark", "int", ARGUMENT);
        add(due, "int setRoom", "int", ARGUMENT);
        add(due, "int entries", "");
        add(due, "int authorOf", "int", INDEX);
        add(due, "int originOf", "int", INDEX);
        add(due, "boolean follows", "int,int", INDEX);
        add(due, "int followers", "int", INDEX);
        add(due, "boolean isLarge", "int", INDEX);
        add(due, "int inRow", "int", INDEX);
        add(due, "int rowAt", "int,int", INDEX);
        add(due, "int floorOf", "int", INDEX);
        add(due, "boolean shows", "int,int", INDEX);
        add(due, "int next", "int,int", INDEX, ARGUMENT);
        add(due, "int pageEnd", "int,int,int", INDEX, ARGUMENT);
        add(due, "int length", "int", INDEX);
        add(due, "int lengthByMerging", "int", INDEX);
        add(due, "boolean hasGap", "int", INDEX);
        return due;
    }

    private static void add(TreeSet<String> due, String head, String parameters, String... thrown) {
        due.add("public " + head + "(" + parameters + ")(" + String.join(",", thrown) + ")");
    }

    private static String names(Class<?>[] types) {
        List<String> names = new ArrayList<>();
        for (Class<?> type : types) {
            names.add(type.getSimpleName());
        }
        return "(" + String.join(",", names) + ")";
    }

    private static void classesInside() {
        for (Class<?> inside : Followrow.class.getDeclaredClasses()) {
            int modifiers = inside.getModifiers();
            boolean hidden = !Modifier.isPublic(modifiers) && !Modifier.isProtected(modifiers);
            Check.due(inside.getName() + " is hidden", hidden, true);
            Check.due(inside.getName() + " is static", Modifier.isStatic(modifiers), true);
        }
        Check.due("at most twelve classes",
                Arrays.asList(Followrow.class.getDeclaredClasses()).size() < 12, true);
    }
}
