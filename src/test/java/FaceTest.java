import java.io.IOException;
import java.lang.reflect.Field;
import java.lang.reflect.Method;
import java.lang.reflect.Modifier;
import java.nio.file.Files;
import java.nio.file.Path;
import java.util.ArrayList;
import java.util.List;
import java.util.TreeSet;
import java.util.regex.Matcher;
import java.util.regex.Pattern;

/** The face of the document, and those rules of the language that can be seen from outside or by words. */
public final class FaceTest {
    private static final List<String> FACE = List.of("lay(int,int,int)", "out(int)", "hours(int)", "green(int)",
        "told(int,int)", "at(int)", "feed(int,long)", "text()", "force(int)", "pull(int,int,int)", "pulled(int,int)",
        "falls()", "least(int,int)", "good(int)", "next(int)", "build(int,int)", "best(int,int,int,int)", "takes()",
        "when()", "spare()", "brown(int)", "holes()", "closes(int,int)", "slipped()", "image()", "back()", "count(int)",
        "sheet(int,int,int)", "cell(int,int,int)", "copy(int,int,int,int,int)", "strips(int,int,int,int)", "taken(int,int)");

    private static final String FORBIDDEN = "\\b(throw|throws|try|catch|synchronized|assert|volatile|transient|native|"
        + "System\\.(?!arraycopy)\\w+|Thread|Random|\\w+Exact|hashCode|Object)\\b|->|::|@";

    public static void main(String[] args) throws IOException {
        constants();
        face();
        inside();
        words();
        Due.end("FaceTest");
    }

    private static void constants() {
        Due.is("NONE", NestsByKnots.NONE, -1);
        Due.is("BAD", NestsByKnots.BAD, -2);
        Due.is("STATE", NestsByKnots.STATE, -3);
        Due.is("FULL", NestsByKnots.FULL, -4);
        Due.is("NO", NestsByKnots.NO, -4611686018427387904L);
    }

    private static void face() {
        Due.is("public final", NestsByKnots.class.getModifiers(), Modifier.PUBLIC | Modifier.FINAL);
        Due.is("constructors", NestsByKnots.class.getConstructors().length, 1);
        Due.is("all constructors", NestsByKnots.class.getDeclaredConstructors().length, 1);
        TreeSet<String> seen = new TreeSet<>();
        for (Method method : NestsByKnots.class.getDeclaredMethods()) {
            String whole = method.toString();
            String face = whole.substring(whole.indexOf("NestsByKnots.") + "NestsByKnots.".length());
            boolean told = FACE.contains(face);
            seen.add(face);
            Due.is("told " + face, Modifier.isPublic(method.getModifiers()) ? 1 : 0, told ? 1 : 0);
            Due.is("else private " + face, Modifier.isPrivate(method.getModifiers()) ? 1 : 0, told ? 0 : 1);
            boolean named = FACE.stream().anyMatch(f -> f.startsWith(method.getName() + "("));
            Due.is("a name of its own " + face, named && !told ? 1 : 0, 0);
            Class<?> answer = face.startsWith("good(") ? long.class : int.class;
            Due.is("answer of " + face, told && method.getReturnType() != answer ? 1 : 0, 0);
        }
        Due.is("all of the face", seen.containsAll(FACE) ? 1 : 0, 1);
    }

    private static void inside() {
        List<String> open = new ArrayList<>(List.of("NONE", "BAD", "STATE", "FULL", "NO"));
        for (Field field : NestsByKnots.class.getDeclaredFields()) {
            boolean told = open.contains(field.getName());
            Due.is("field " + field, Modifier.isPrivate(field.getModifiers()) ? 1 : 0, told ? 0 : 1);
        }
        for (Class<?> inner : NestsByKnots.class.getDeclaredClasses()) {
            Due.is("static " + inner, Modifier.isStatic(inner.getModifiers()) ? 1 : 0, 1);
            Due.is("not public " + inner, Modifier.isPublic(inner.getModifiers()) ? 1 : 0, 0);
            for (Field field : inner.getDeclaredFields()) {
                boolean still = !Modifier.isStatic(field.getModifiers()) || Modifier.isFinal(field.getModifiers());
                Due.is("no state for all " + field, still ? 1 : 0, 1);
            }
        }
        Due.is("some twelve classes", NestsByKnots.class.getDeclaredClasses().length > 11 ? 1 : 0, 0);
    }

    private static void words() throws IOException {
        String source = Files.readString(Path.of("src/main/java/NestsByKnots.java"));
        String bare = source.replaceAll("(?s)/\\*.*?\\*/", " ").replaceAll("//[^\n]*", " ").replaceAll("\"[^\"\n]*\"", "\"\"");
        Matcher word = Pattern.compile(FORBIDDEN).matcher(bare);
        while (word.find()) {
            Due.is("a word that the language does not leave: " + word.group(), 1, 0);
        }
        Matcher library = Pattern.compile("import ([\\w.]+);").matcher(bare);
        while (library.find()) {
            Due.is("library " + library.group(1), library.group(1).equals("java.util.Arrays") ? 1 : 0, 1);
        }
    }
}
