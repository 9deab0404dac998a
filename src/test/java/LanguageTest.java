import java.io.DataInputStream;
import java.io.IOException;
import java.io.InputStream;
import java.lang.reflect.Field;
import java.lang.reflect.Method;
import java.lang.reflect.Modifier;
import java.nio.charset.StandardCharsets;
import java.nio.file.Files;
import java.nio.file.Path;
import java.util.ArrayList;
import java.util.HashSet;
import java.util.List;
import java.util.Set;

/**
 * The program keeps to those rules of ../shared/LANGUAGE.md that can be seen from its text, its
 * classes and what they refer to.
 */
public final class LanguageTest {
    private static final Path PROGRAM = Path.of("src/main/java/Followrow.java");
    // All of the library that the program needs, of what rules 4 and 6 list.
    private static final Set<String> LIBRARY = Set.of(
            "java/lang/Object.<init>", "java/lang/Math.min",
            "java/lang/IllegalStateException.<init>", "java/lang/IllegalArgumentException.<init>",
            "java/lang/IndexOutOfBoundsException.<init>");
    // Words that the program does without, and that the rules forbid or bind to conditions.
    private static final Set<String> FORBIDDEN = Set.of(
            "import", "package", "try", "catch", "finally", "synchronized", "assert", "instanceof",
            "native", "transient", "volatile", "protected", "var", "yield");
    private static final int MOST_PARAMETERS = 7;
    private static final int MOST_CLASSES = 12;
    private static final int MOST_FIELDS = 20;

    public static void main(String[] args) throws IOException {
        List<Class<?>> classes = new ArrayList<>(List.of(Followrow.class.getDeclaredClasses()));
        classes.add(Followrow.class);
        Check.due("classes in the file", classes.size() <= MOST_CLASSES, true);
        for (Class<?> one : classes) {
            checkMembers(one);
            checkReferences(one);
        }
        checkText(Files.readAllLines(PROGRAM, StandardCharsets.ISO_8859_1));
        Check.end();
    }

    // Rules 1, 5 and 11.
    private static void checkMembers(Class<?> one) {
        if (one != Followrow.class) {
            int modifiers = one.getModifiers();
            Check.due(one + " is static", Modifier.isStatic(modifiers), true);
            Check.due(one + " is hidden", Modifier.isPublic(modifiers) || Modifier.isProtected(modifiers), false);
        }
        Set<String> face = new HashSet<>();
        for (Method method : Followrow.class.getMethods()) {
            face.add(method.getName());
        }
        for (Method method : one.getDeclaredMethods()) {
            boolean shared = one != Followrow.class || Modifier.isPrivate(method.getModifiers());
            Check.due(method + " has a public one's name", shared && face.contains(method.getName()), false);
            Check.due(method + " has few parameters", method.getParameterCount() <= MOST_PARAMETERS, true);
        }
        int fields = 0;
        for (Field field : one.getDeclaredFields()) {
            boolean constant = Modifier.isStatic(field.getModifiers());
            fields += constant ? 0 : 1;
            Check.due(field + " is final, if static", constant && !Modifier.isFinal(field.getModifiers()), false);
        }
        Check.due(one + " has few fields", fields <= MOST_FIELDS, true);
    }

    // Rules 3, 4 and 6: each method and field of others that the compiled class names.
    private static void checkReferences(Class<?> one) throws IOException {
        for (String reference : references(one)) {
            boolean own = reference.startsWith("Followrow.") || reference.startsWith("Followrow$");
            Check.due(one + " uses " + reference, own || LIBRARY.contains(reference), true);
        }
    }

    // The constant pool of a class file: what it holds by its tag.
    private static List<String> references(Class<?> one) throws IOException {
        String file = "/" + one.getName() + ".class";
        try (InputStream in = Followrow.class.getResourceAsStream(file);
                DataInputStream data = new DataInputStream(in)) {
            data.readInt();
            data.readInt();
            int count = data.readUnsignedShort();
            String[] texts = new String[count];
            int[] first = new int[count];
            int[] second = new int[count];
            List<Integer> members = new ArrayList<>();
            List<String> found = new ArrayList<>();
            for (int i = 1; i < count; i++) {
                int tag = data.readUnsignedByte();
                switch (tag) {
                    case 1 -> texts[i] = data.readUTF();
                    case 3, 4 -> data.readInt();
                    case 5, 6 -> {
                        data.readLong();
                        i++;
                    }
                    case 7, 8 -> first[i] = data.readUnsignedShort();
                    case 9, 10, 11, 12 -> {
                        first[i] = data.readUnsignedShort();
                        second[i] = data.readUnsignedShort();
                        if (tag != 12) {
                            members.add(i);
                        }
                    }
                    default -> {
                        // Lambdas, method references and texts joined by + are made by these.
                        found.add("what the tag " + tag + " makes");
                        data.skipBytes(tag == 15 ? 3 : tag == 16 ? 2 : 4);
                    }
                }
            }
            for (int i : members) {
                found.add(texts[first[first[i]]] + "." + texts[first[second[i]]]);
            }
            return found;
        }
    }

    // Rules 3, 4, 5 and 6.
    private static void checkText(List<String> lines) {
        for (int i = 0; i < lines.size(); i++) {
            String line = lines.get(i);
            String where = "line " + (i + 1) + ": ";
            Check.due(where + "signs", line.chars().allMatch(sign -> sign < 127), true);
            String code = code(line);
            for (String word : code.split("\\W+")) {
                Check.due(where + "has " + word, FORBIDDEN.contains(word), false);
            }
            for (String sign : new String[] {"->", "::", "static {"}) {
                Check.due(where + "has " + sign, code.contains(sign), false);
            }
            if (code.contains("throw ")) {
                boolean plain = code.trim().matches("throw new \\w+Exception\\((\"\")?\\);");
                Check.due(where + "a plain throw", plain, true);
            }
        }
    }

    // A line without its comment, its texts empty.
    private static String code(String line) {
        String trimmed = line.trim();
        if (trimmed.startsWith("*") || trimmed.startsWith("/*") || trimmed.startsWith("//")) {
            return "";
        }
        return line.replaceAll("\"[^\"]*\"", "\"\"").replaceAll("//.*", "");
    }
}
