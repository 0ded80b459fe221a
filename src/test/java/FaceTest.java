import java.io.IOException;
import java.lang.reflect.Field;
import java.lang.reflect.Method;
import java.lang.reflect.Modifier;
import java.nio.file.Files;
import java.nio.file.Path;
import java.util.Arrays;
import java.util.Set;
import java.util.TreeSet;

/** The document's face, and those rules of LANGUAGE.md that can be seen from outside or by words alone. */
public final class FaceTest {
    private static final Check CHECK = new Check();
    private static final String SOURCE = "src/main/java/RemoteDesks.java";
    private static final String[] FACE = {
        "int feed(int, int, int, int, int)", "int cut(int)", "int describe()", "int place()", "int count(int)",
        "int node(int)", "int set(int, int, long)", "long field(int, int)", "int letterAt(int, int, int)", "int letter(int)",
        "int hand(int, long)", "int open()", "int desk()", "int object(int, int, int, int, int)",
        "int failure(int, int, int)", "int beside(int, int)", "int knows(int, int, boolean)", "int give(int, int)",
        "int release(int, int)", "int reference(int, int)", "int told(int, int)", "int call(int, int, int)",
        "int state(int)", "long value(int)", "int letterOf(int, int)", "int tree(int, int, int)", "int about(int, int)",
        "int slot(int, int)", "int through(int)", "int lose(int)", "int twice(int)", "int tick(int)", "int restart(int)",
        "int audit(int, int)", "int supply(int, int, int)", "int carry(int, int, int, int)", "int stock(int, int)"
    };

    public static void main(String[] args) throws IOException {
        constants();
        members();
        nestedClasses();
        words();
        CHECK.end();
    }

    private static void constants() {
        CHECK.part("constants");
        CHECK.due("NONE", RemoteDesks.NONE, -1);
        CHECK.due("UNKNOWN", RemoteDesks.UNKNOWN, -100001);
        CHECK.due("OUTSIDE", RemoteDesks.OUTSIDE, -100002);
        CHECK.due("NOT", RemoteDesks.NOT, -100003);
        CHECK.due("FULL", RemoteDesks.FULL, -100004);
    }

    private static String form(Method m) {
        String types = Arrays.toString(Arrays.stream(m.getParameterTypes()).map(Class::getName).toArray());
        return m.getReturnType().getName() + " " + m.getName() + "(" + types.substring(1, types.length() - 1) + ")";
    }

    private static void members() {
        CHECK.part("members");
        int modifiers = RemoteDesks.class.getModifiers();
        CHECK.due("public", Modifier.isPublic(modifiers) ? 1 : 0, 1);
        CHECK.due("final", Modifier.isFinal(modifiers) ? 1 : 0, 1);
        CHECK.due("constructors", RemoteDesks.class.getDeclaredConstructors().length, 1);
        CHECK.due("public constructors", RemoteDesks.class.getConstructors().length, 1);
        Set<String> due = new TreeSet<>(Arrays.asList(FACE));
        Set<String> names = new TreeSet<>();
        for (Method m : RemoteDesks.class.getDeclaredMethods()) {
            if (Modifier.isPublic(m.getModifiers())) {
                CHECK.due("in the face: " + form(m), due.remove(form(m)) ? 1 : 0, 1);
                CHECK.due("not static: " + m.getName(), Modifier.isStatic(m.getModifiers()) ? 1 : 0, 0);
                names.add(m.getName());
            }
        }
        CHECK.due("lacking: " + due, due.size(), 0);
        for (Method m : RemoteDesks.class.getDeclaredMethods()) {
            if (!Modifier.isPublic(m.getModifiers())) {
                CHECK.due("private: " + m.getName(), Modifier.isPrivate(m.getModifiers()) ? 1 : 0, 1);
                CHECK.due("its own name: " + m.getName(), names.contains(m.getName()) ? 1 : 0, 0);
            }
            CHECK.due("parameters: " + m.getName(), m.getParameterCount() <= 7 ? 1 : 0, 1);
        }
        Set<String> constants = new TreeSet<>(Set.of("NONE", "UNKNOWN", "OUTSIDE", "NOT", "FULL"));
        int own = 0;
        for (Field f : RemoteDesks.class.getDeclaredFields()) {
            boolean isConstant = constants.remove(f.getName());
            CHECK.due("public: " + f.getName(), Modifier.isPublic(f.getModifiers()) ? 1 : 0, isConstant ? 1 : 0);
            CHECK.due("private: " + f.getName(), Modifier.isPrivate(f.getModifiers()) ? 1 : 0, isConstant ? 0 : 1);
            own += finalIfStatic(f);
        }
        CHECK.due("fields", own <= 20 ? 1 : 0, 1);
        CHECK.due("constants", constants.size(), 0);
    }

    /** 1 for a field that is not static. */
    private static int finalIfStatic(Field f) {
        boolean isStatic = Modifier.isStatic(f.getModifiers());
        if (isStatic) {
            CHECK.due("final: " + f.getName(), Modifier.isFinal(f.getModifiers()) ? 1 : 0, 1);
        }
        return isStatic ? 0 : 1;
    }

    private static void nestedClasses() {
        CHECK.part("classes inside");
        Set<String> face = new TreeSet<>();
        for (Method m : RemoteDesks.class.getMethods()) {
            face.add(m.getName());
        }
        Class<?>[] inside = RemoteDesks.class.getDeclaredClasses();
        CHECK.due("at most 12 classes", inside.length + 1 <= 12 ? 1 : 0, 1);
        for (Class<?> c : inside) {
            CHECK.due("static: " + c, Modifier.isStatic(c.getModifiers()) ? 1 : 0, 1);
            CHECK.due("not public: " + c, Modifier.isPublic(c.getModifiers()) ? 1 : 0, 0);
            int own = 0;
            for (Field f : c.getDeclaredFields()) {
                own += finalIfStatic(f);
            }
            CHECK.due("fields of " + c, own <= 20 ? 1 : 0, 1);
            for (Method m : c.getDeclaredMethods()) {
                CHECK.due("its own name: " + m, face.contains(m.getName()) ? 1 : 0, 0);
                CHECK.due("parameters: " + m, m.getParameterCount() <= 7 ? 1 : 0, 1);
            }
        }
    }

    private static void words() throws IOException {
        CHECK.part("words");
        String text = Files.readString(Path.of(SOURCE));
        String code = text.replaceAll("(?s)/\\*.*?\\*/", "").replaceAll("//[^\n]*", "");
        String[] none = {"throw", "throws", "try", "catch", "finally", "synchronized", "assert", "package", "Random", "System",
            "Thread", "Object", "native", "volatile", "transient", "protected"};
        for (String word : none) {
            CHECK.due(word, code.matches("(?s).*\\b" + word + "\\b.*") ? 1 : 0, 0);
        }
        for (String sign : new String[] {"->", "::", "static {", "Exact("}) {
            CHECK.due(sign, code.contains(sign) ? 1 : 0, 0);
        }
        for (String line : text.split("\n")) {
            if (line.startsWith("import")) {
                boolean listed = line.equals("import java.util.ArrayList;") || line.equals("import java.util.Arrays;");
                CHECK.due(line, listed ? 1 : 0, 1);
            }
        }
    }
}
