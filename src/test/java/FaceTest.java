import java.lang.reflect.Field;
import java.lang.reflect.Method;
import java.lang.reflect.Modifier;
import java.util.List;
import java.util.TreeSet;

/** The face of the document: its constants, its constructor and its methods, and no other member that is not private. */
public final class FaceTest {
    private static final List<String> FACE = List.of("lay(int,int,int)", "out(int)", "hours(int)", "green(int)",
        "told(int,int)", "at(int)", "feed(int,long)", "text()", "force(int)", "pull(int,int,int)", "pulled(int,int)",
        "falls()", "least(int,int)", "good(int)", "next(int)", "build(int,int)", "best(int,int,int,int)", "takes()",
        "when()", "spare()", "brown(int)", "holes()", "closes(int,int)", "slipped()", "image()", "back()", "count(int)",
        "sheet(int,int,int)", "cell(int,int,int)", "copy(int,int,int,int,int)", "strips(int,int,int,int)", "taken(int,int)");

    public static void main(String[] args) {
        constants();
        face();
        fields();
        Due.end("FaceTest");
    }

    private static void constants() {
        Due.is("NONE", NestsByKnots.NONE, -1);
        Due.is("BAD", NestsByKnots.BAD, -2);
        Due.is("STATE", NestsByKnots.STATE, -3);
        Due.is("FULL", NestsByKnots.FULL, -4);
        Due.is("NO", NestsByKnots.NO, -4611686018427387904L);
    }

    private static void face() {
        Due.is("public final", NestsByKnots.class.getModifiers(), Modifier.PUBLIC | Modifier.FINAL);
        Due.is("constructors", NestsByKnots.class.getConstructors().length, 1);
        Due.is("all constructors", NestsByKnots.class.getDeclaredConstructors().length, 1);
        Due.is("of no parameters", NestsByKnots.class.getConstructors()[0].getParameterCount(), 0);
        TreeSet<String> seen = new TreeSet<>();
        for (Method method : NestsByKnots.class.getDeclaredMethods()) {
            String whole = method.toString();
            String face = whole.substring(whole.indexOf("NestsByKnots.") + "NestsByKnots.".length());
            boolean told = FACE.contains(face);
            seen.add(face);
            Due.is("told " + face, method.getModifiers() == Modifier.PUBLIC ? 1 : 0, told ? 1 : 0);
            Due.is("else private " + face, Modifier.isPrivate(method.getModifiers()) ? 1 : 0, told ? 0 : 1);
            boolean named = FACE.stream().anyMatch(f -> f.startsWith(method.getName() + "("));
            Due.is("a name of its own " + face, named && !told ? 1 : 0, 0);
            Class<?> answer = face.startsWith("good(") ? long.class : int.class;
            Due.is("answer of " + face, told && method.getReturnType() != answer ? 1 : 0, 0);
        }
        Due.is("all of the face", seen.containsAll(FACE) ? 1 : 0, 1);
    }

    private static void fields() {
        List<String> open = List.of("NONE", "BAD", "STATE", "FULL", "NO");
        int seen = 0;
        for (Field field : NestsByKnots.class.getDeclaredFields()) {
            if (open.contains(field.getName())) {
                seen++;
                Class<?> type = field.getName().equals("NO") ? long.class : int.class;
                Due.is("type of " + field, field.getType() == type ? 1 : 0, 1);
                Due.is("constant " + field, field.getModifiers(), Modifier.PUBLIC | Modifier.STATIC | Modifier.FINAL);
            } else {
                Due.is("private " + field, Modifier.isPrivate(field.getModifiers()) ? 1 : 0, 1);
            }
        }
        Due.is("all constants", seen, open.size());
    }
}
