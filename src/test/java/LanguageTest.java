import java.io.ByteArrayInputStream;
import java.io.DataInputStream;
import java.io.IOException;
import java.io.InputStream;
import java.lang.reflect.Executable;
import java.lang.reflect.Field;
import java.lang.reflect.Method;
import java.lang.reflect.Modifier;
import java.nio.file.Files;
import java.nio.file.Path;
import java.util.ArrayList;
import java.util.List;
import java.util.Set;
import java.util.TreeSet;
import java.util.regex.Matcher;
import java.util.regex.Pattern;

/** The rules of LANGUAGE.md that can be seen in the source, by reflection and in the compiled classes. */
public final class LanguageTest {
    private static final Path SOURCE = Path.of("src/main/java/NestsByKnots.java");
    private static final int MOST_CLASSES = 12, MOST_FIELDS = 20, MOST_PARAMETERS = 7, MOST_LINES = 60;

    private static final String FORBIDDEN = "\\b(throw|throws|try|catch|synchronized|assert|volatile|transient|native|package|"
        + "System\\.(?!arraycopy)\\w+|Thread|Random|\\w+Exact|hashCode|Object)\\b|->|::|@";

    private static final Set<String> LIBRARY = Set.of("java/lang/Object.<init>", "java/lang/System.arraycopy",
        "java/util/Arrays.copyOf", "java/util/Arrays.copyOfRange", "java/util/Arrays.fill");
    private static final Set<String> OF_STRING = Set.of("length", "charAt", "isEmpty", "equals", "indexOf", "substring",
        "toCharArray", "<init>");
    private static final Set<String> OF_BUILDER = Set.of("<init>", "append", "charAt", "setCharAt", "setLength",
        "deleteCharAt", "reverse", "length", "toString");
    private static final Set<String> OF_LIST = Set.of("<init>", "add", "get", "set", "remove", "size", "isEmpty", "clear",
        "iterator", "of");
    private static final Set<Class<?>> PLAIN = Set.of(int.class, long.class, short.class, byte.class, char.class,
        boolean.class, double.class, float.class);

    public static void main(String[] args) throws IOException {
        words();
        signs();
        methodsStayShort();
        for (Class<?> one : classes()) {
            inside(one);
            compiled(one);
        }
        Due.is("11: some twelve classes", classes().size() > MOST_CLASSES ? 1 : 0, 0);
        Due.end("LanguageTest");
    }

    /** The class of the document, and those inside it. */
    private static List<Class<?>> classes() {
        List<Class<?>> all = new ArrayList<>();
        all.add(NestsByKnots.class);
        all.addAll(List.of(NestsByKnots.class.getDeclaredClasses()));
        return all;
    }

    private static String bare() throws IOException {
        return Files.readString(SOURCE).replaceAll("(?s)/\\*.*?\\*/", " ").replaceAll("//[^\n]*", " ")
            .replaceAll("\"[^\"\n]*\"", "\"\"");
    }

    /** Rules 2, 4, 6 and 13 as far as words tell them. */
    private static void words() throws IOException {
        Matcher word = Pattern.compile(FORBIDDEN).matcher(bare());
        while (word.find()) {
            Due.is("a word that the language does not leave: " + word.group(), 1, 0);
        }
        Matcher library = Pattern.compile("import ([\\w.*]+);").matcher(bare());
        while (library.find()) {
            boolean left = List.of("java.util.Arrays", "java.util.ArrayList", "java.util.List", "java.util.Iterator")
                .contains(library.group(1));
            Due.is("4: library " + library.group(1), left ? 1 : 0, 1);
        }
    }

    /** Rule 4: constants' signs are 1 to 127. */
    private static void signs() throws IOException {
        for (byte b : Files.readAllBytes(SOURCE)) {
            Due.is("4: a sign " + b, b > 0 ? 1 : 0, 1);
        }
    }

    /** Rule 11; a method's last line is the first brace that stands as far to the right as its first one. */
    private static void methodsStayShort() throws IOException {
        List<String> lines = Files.readAllLines(SOURCE);
        for (int first = 0; first < lines.size(); first++) {
            Matcher head = Pattern.compile("( {4}| {8})(?! )[\\w\\[\\] ]+\\([^;]*\\{").matcher(lines.get(first));
            if (head.matches()) {
                int last = first;
                while (last < lines.size() && !lines.get(last).equals(head.group(1) + "}")) {
                    last++;
                }
                Due.is("11: lines of" + lines.get(first), last - first > MOST_LINES ? last - first : 0, 0);
            }
        }
    }

    /** Rules 1, 2, 3, 5 and 11 as far as reflection tells them. */
    private static void inside(Class<?> one) {
        boolean own = one != NestsByKnots.class;
        Due.is("2: static " + one, !own || Modifier.isStatic(one.getModifiers()) ? 1 : 0, 1);
        Due.is("1: not public, not protected " + one,
            own && (one.getModifiers() & (Modifier.PUBLIC | Modifier.PROTECTED)) != 0 ? 1 : 0, 0);
        Due.is("2: no class but the document's has classes inside " + one, own ? one.getDeclaredClasses().length : 0, 0);
        int fields = 0;
        for (Field field : one.getDeclaredFields()) {
            boolean still = Modifier.isStatic(field.getModifiers());
            fields += still ? 0 : 1;
            Due.is("5: no state for all " + field, still && !Modifier.isFinal(field.getModifiers()) ? 1 : 0, 0);
            Due.is("3: type of " + field, isLeft(field.getType()) ? 1 : 0, 1);
        }
        Due.is("11: some twenty fields " + one, fields > MOST_FIELDS ? 1 : 0, 0);
        Set<String> face = new TreeSet<>();
        for (Method method : NestsByKnots.class.getMethods()) {
            face.add(method.getName());
        }
        List<Executable> all = new ArrayList<>(List.of(one.getDeclaredMethods()));
        all.addAll(List.of(one.getDeclaredConstructors()));
        for (Executable part : all) {
            Due.is("11: seven parameters " + part, part.getParameterCount() > MOST_PARAMETERS ? 1 : 0, 0);
            Due.is("1: a name of its own " + part, own && face.contains(part.getName()) ? 1 : 0, 0);
            Due.is("2: no lambda " + part, part.getName().startsWith("lambda$") ? 1 : 0, 0);
            for (Class<?> type : part.getParameterTypes()) {
                Due.is("3: type of a parameter of " + part, isLeft(type) ? 1 : 0, 1);
            }
        }
    }

    /** Rule 3; of two dimensions are arrays of numbers alone. */
    private static boolean isLeft(Class<?> type) {
        Class<?> part = type;
        int dimensions = 0;
        while (part.isArray()) {
            part = part.getComponentType();
            dimensions++;
        }
        if (PLAIN.contains(part)) {
            return dimensions <= 2;
        }
        boolean library = part == String.class || part == StringBuilder.class || part == List.class || part == ArrayList.class;
        return library && dimensions == 0 || classes().contains(part) && dimensions <= 1;
    }

    // ---- the compiled classes: what they call, and that they catch nothing

    private static void compiled(Class<?> one) throws IOException {
        String file = one.getName() + ".class";
        try (InputStream in = LanguageTest.class.getResourceAsStream(file)) {
            Due.is("there " + file, in != null ? 1 : 0, 1);
            DataInputStream data = new DataInputStream(new ByteArrayInputStream(in.readAllBytes()));
            data.skipBytes(8);
            String[] words = constants(data, one);
            data.skipBytes(6);
            data.skipBytes(2 * data.readUnsignedShort());
            members(data, words, one);
            members(data, words, one);
        }
    }

    /** Rule 4 by the constants of a class; none of a lambda, a method reference, or a text joined by +. */
    private static String[] constants(DataInputStream data, Class<?> one) throws IOException {
        int count = data.readUnsignedShort();
        String[] words = new String[count];
        int[][] pairs = new int[count][];
        int[] tags = new int[count];
        for (int i = 1; i < count; i++) {
            int tag = data.readUnsignedByte();
            tags[i] = tag;
            switch (tag) {
                case 1: words[i] = data.readUTF(); break;
                case 3: case 4: data.skipBytes(4); break;
                case 5: case 6: data.skipBytes(8); i++; break;
                case 7: case 8: pairs[i] = new int[] {data.readUnsignedShort()}; break;
                case 9: case 10: case 11: case 12:
                    pairs[i] = new int[] {data.readUnsignedShort(), data.readUnsignedShort()}; break;
                default:
                    Due.is("2, 10: a constant of sort " + tag + " in " + one, 1, 0);
                    data.skipBytes(tag == 15 ? 3 : tag == 17 || tag == 18 ? 4 : 2);
                    break;
            }
        }
        for (int i = 1; i < count; i++) {
            if (tags[i] == 10 || tags[i] == 11) {
                String owner = words[pairs[pairs[i][0]][0]];
                String name = words[pairs[pairs[i][1]][0]];
                Due.is("4: " + owner + "." + name + " in " + one, isCallLeft(owner, name) ? 1 : 0, 1);
            }
        }
        return words;
    }

    private static boolean isCallLeft(String owner, String name) {
        if (owner.startsWith("NestsByKnots")) {
            return true;
        }
        switch (owner) {
            case "java/lang/String": return OF_STRING.contains(name);
            case "java/lang/StringBuilder": return OF_BUILDER.contains(name);
            case "java/util/List": case "java/util/ArrayList": return OF_LIST.contains(name);
            case "java/lang/Math": case "java/lang/Integer": case "java/lang/Long": return !name.endsWith("Exact");
            default: return LIBRARY.contains(owner + "." + name) || owner.startsWith("[") && name.equals("clone");
        }
    }

    /** Fields or methods; of a method's code that it catches nothing. */
    private static void members(DataInputStream data, String[] words, Class<?> one) throws IOException {
        int count = data.readUnsignedShort();
        for (int i = 0; i < count; i++) {
            data.skipBytes(2);
            String name = words[data.readUnsignedShort()];
            data.skipBytes(2);
            int attributes = data.readUnsignedShort();
            for (int k = 0; k < attributes; k++) {
                String attribute = words[data.readUnsignedShort()];
                byte[] whole = new byte[data.readInt()];
                data.readFully(whole);
                if (attribute.equals("Code")) {
                    DataInputStream code = new DataInputStream(new ByteArrayInputStream(whole));
                    code.skipBytes(4);
                    code.skipBytes(code.readInt());
                    Due.is("6: " + name + " of " + one + " catches", code.readUnsignedShort(), 0);
                }
            }
        }
    }
}
