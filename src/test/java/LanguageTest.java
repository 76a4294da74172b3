import java.io.DataInputStream;
import java.io.IOException;
import java.io.InputStream;
import java.lang.reflect.Field;
import java.lang.reflect.Method;
import java.lang.reflect.Modifier;
import java.nio.file.Files;
import java.nio.file.Path;
import java.util.ArrayList;
import java.util.List;
import java.util.Set;
import java.util.TreeSet;
import java.util.regex.Matcher;
import java.util.regex.Pattern;

/** The rules of LANGUAGE.md that can be seen from the class files and from the lines of the class. */
public final class LanguageTest {
    private static final Path SOURCE = Path.of("src/main/java/CourtMoorhens.java");
    /** Of the library that rule 4 gives, and of rule 6: what the class uses of it. */
    private static final Set<String> LIBRARY = Set.of("java/lang/Object.<init>", "java/lang/String.length",
        "java/lang/String.charAt", "java/lang/Math.min", "java/lang/Math.max", "java/lang/Integer.bitCount",
        "java/lang/IllegalArgumentException.<init>", "java/util/NoSuchElementException.<init>");
    private static final Pattern FORBIDDEN = Pattern.compile("->|::|\\b(try|catch|finally|synchronized|assert|double|float"
        + "|instanceof|native|transient|volatile|System|Object|protected)\\b|static \\{");
    private static final Pattern METHOD = Pattern.compile("( +)(?!return|else|case|new)[\\w<>\\[\\] ]*\\b\\w+\\(.*\\{");
    private static final int LONGEST_METHOD = 60;
    private static final int MOST_FIELDS = 20;
    private static final int MOST_CLASSES = 12;
    private static final int MOST_PARAMETERS = 7;

    private static final Check CHECK = new Check();

    private static void holds(String what, boolean right) {
        CHECK.same(what + " (1 it holds)", right ? 1 : 0, 1);
    }

    /** What a class file names of others, as Class.method or Class.field; a call made by invokedynamic as such. */
    private static Set<String> named(Class<?> type) throws IOException {
        String file = type.getName() + ".class";
        try (InputStream bytes = type.getResourceAsStream(file); DataInputStream in = new DataInputStream(bytes)) {
            in.skipBytes(8);
            int many = in.readUnsignedShort();
            int[] one = new int[many];
            int[] other = new int[many];
            String[] texts = new String[many];
            List<Integer> members = new ArrayList<>();
            Set<String> names = new TreeSet<>();
            for (int i = 1; i < many; i++) {
                int tag = in.readUnsignedByte();
                switch (tag) {
                    case 1: texts[i] = in.readUTF(); break;
                    case 3: case 4: in.skipBytes(4); break;
                    case 5: case 6: in.skipBytes(8); i++; break;
                    case 7: case 8: case 16: case 19: case 20: one[i] = in.readUnsignedShort(); break;
                    case 9: case 10: case 11: members.add(i); // falls to the two numbers that these hold
                    case 12: one[i] = in.readUnsignedShort(); other[i] = in.readUnsignedShort(); break;
                    case 15: in.skipBytes(3); break;
                    case 17: case 18: names.add("invokedynamic"); in.skipBytes(4); break;
                    default: throw new IOException("no such tag: " + tag);
                }
            }
            for (int member : members) {
                names.add(texts[one[one[member]]] + "." + texts[one[other[member]]]);
            }
            return names;
        }
    }

    private static void checkType(Class<?> type, Set<String> publicNames) throws IOException {
        for (String name : named(type)) {
            holds(type.getName() + " may use " + name, name.startsWith("CourtMoorhens") || LIBRARY.contains(name));
        }
        int fields = 0;
        for (Field field : type.getDeclaredFields()) {
            boolean constant = Modifier.isStatic(field.getModifiers());
            holds(field + " is final, if it is static", !constant || Modifier.isFinal(field.getModifiers()));
            fields += constant ? 0 : 1;
        }
        holds(type.getName() + " has few fields", fields <= MOST_FIELDS);
        for (Method method : type.getDeclaredMethods()) {
            holds(method + " has few parameters", method.getParameterCount() <= MOST_PARAMETERS);
            holds(method + " bears no public name", type == CourtMoorhens.class && Modifier.isPublic(method.getModifiers())
                    || !Modifier.isPrivate(method.getModifiers()) || !publicNames.contains(method.getName()));
        }
    }

    private static void checkLines(List<String> lines) {
        int imports = 0;
        for (int i = 0; i < lines.size(); i++) {
            String line = lines.get(i);
            String code = line.replaceAll("^ *(/\\*\\*|//).*", "");
            String at = "line " + (i + 1);
            imports += code.startsWith("import ") ? 1 : 0;
            holds(at + " has signs from 32 to 126 alone", line.matches("[ -~]*"));
            Matcher forbidden = FORBIDDEN.matcher(code.replaceAll("\"[^\"]*\"", ""));
            holds(at + " keeps away from what is ruled out", !forbidden.find());
            Matcher method = METHOD.matcher(code);
            if (method.matches() && (method.group(1).length() == 4 || method.group(1).length() == 8)) {
                int end = lines.subList(i, lines.size()).indexOf(method.group(1) + "}");
                holds(at + " begins a short method", end >= 0 && end < LONGEST_METHOD);
            }
        }
        holds("one import", imports == 1 && lines.contains("import java.util.NoSuchElementException;"));
    }

    public static void main(String[] args) throws IOException {
        List<Class<?>> types = new ArrayList<>(List.of(CourtMoorhens.class.getDeclaredClasses()));
        for (Class<?> type : types) {
            holds(type + " is static, and not public", Modifier.isStatic(type.getModifiers())
                    && !Modifier.isPublic(type.getModifiers()) && type.getDeclaredClasses().length == 0);
        }
        types.add(CourtMoorhens.class);
        holds("few classes", types.size() <= MOST_CLASSES);
        Set<String> publicNames = new TreeSet<>();
        for (Method method : CourtMoorhens.class.getDeclaredMethods()) {
            if (Modifier.isPublic(method.getModifiers())) {
                publicNames.add(method.getName());
            }
        }
        for (Class<?> type : types) {
            checkType(type, publicNames);
        }
        checkLines(Files.readAllLines(SOURCE));
        CHECK.end("LanguageTest");
    }
}
