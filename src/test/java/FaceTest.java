import java.io.IOException;
import java.lang.reflect.Constructor;
import java.lang.reflect.Field;
import java.lang.reflect.Method;
import java.lang.reflect.Modifier;
import java.nio.file.Files;
import java.nio.file.Path;
import java.util.ArrayList;
import java.util.Collections;
import java.util.List;

/** The public face is the document's, and nothing else can be seen. */
public final class FaceTest {
    private static final String[] METHODS = {
        "int append(int,int,int,int,int)", "int parse(int)", "int errorPosition()", "int tick()",
        "boolean mayPass(int,int,boolean)", "boolean isSafe()", "boolean holds(int,int)",
        "int waiting(int)", "int kindAt(int,int)", "int tagAt(int,int)", "int blockers(int,int)",
        "int next(int)", "int held(int,int)", "int word(int,int)", "int tagState(int,int)",
        "int stored(int,int)", "int data(int,int,int)", "int forwarded(int)", "int passings(int)",
        "double utilisation(int)", "float averageWait(int)", "int ratioBits()", "int ticksToRest()",
        "boolean isStuck()", "int completeTick(int,int)", "int run(int)",
        "int post(int,int,int,int,boolean)", "int read(int,int,int,boolean)",
        "int configure(int,int,int,boolean)", "int release(int,int)", "int undo()",
        "boolean saveSnapshot(int)", "int restoreSnapshot(int)",
    };

    public static void main(String[] args) throws IOException {
        Check check = new Check("FaceTest");
        check.due("the class is public and final",
                BusBridge.class.getModifiers() & (Modifier.PUBLIC | Modifier.FINAL),
                Modifier.PUBLIC | Modifier.FINAL);
        check.due("NONE", BusBridge.NONE, -1);
        check.dueText("methods", sorted(visibleMethods()), sorted(List.of(METHODS)));
        check.dueText("fields", sorted(visibleFields()), "NONE\n");
        Constructor<?>[] constructors = BusBridge.class.getDeclaredConstructors();
        check.due("constructors", constructors.length, 1);
        check.due("constructor's parameters", constructors[0].getParameterCount(), 0);
        check.due("the constructor is public", Modifier.isPublic(constructors[0].getModifiers()), true);
        Path document = Path.of("../shared/DOC.md");
        if (Files.exists(document)) {
            check.dueText("the face as the document writes it", sorted(writtenFace()), sorted(documentFace(document)));
        }
        check.end();
    }

    /** The lines of the document's face, with types alone for parameters. */
    private static List<String> documentFace(Path document) throws IOException {
        List<String> face = new ArrayList<>();
        for (String line : Files.readAllLines(document)) {
            if (line.startsWith("    public ") && line.endsWith(";") && line.contains("(")) {
                face.add(line.trim().replaceAll("(int|boolean) \\w+([,)])", "$1$2"));
            }
        }
        return face;
    }

    /** The class's constructor and methods in the same form, with the exceptions that they declare. */
    private static List<String> writtenFace() {
        List<String> face = new ArrayList<>();
        for (Constructor<?> constructor : BusBridge.class.getDeclaredConstructors()) {
            face.add("public BusBridge()" + thrown(constructor.getExceptionTypes()) + ";");
        }
        for (Method method : BusBridge.class.getDeclaredMethods()) {
            if (Modifier.isPublic(method.getModifiers())) {
                face.add("public " + signature(method).replace(",", ", ") + thrown(method.getExceptionTypes()) + ";");
            }
        }
        return face;
    }

    private static String thrown(Class<?>[] exceptions) {
        StringBuilder text = new StringBuilder();
        for (Class<?> exception : exceptions) {
            text.append(text.length() == 0 ? " throws " : ", ").append(exception.getSimpleName());
        }
        return text.toString();
    }

    private static List<String> visibleMethods() {
        List<String> names = new ArrayList<>();
        for (Method method : BusBridge.class.getDeclaredMethods()) {
            if (!Modifier.isPrivate(method.getModifiers()) && !method.isSynthetic()) {
                names.add(signature(method));
            }
        }
        return names;
    }

    private static String signature(Method method) {
        StringBuilder text = new StringBuilder();
        text.append(method.getReturnType().getName()).append(' ').append(method.getName()).append('(');
        String comma = "";
        for (Class<?> type : method.getParameterTypes()) {
            text.append(comma).append(type.getName());
            comma = ",";
        }
        return text.append(')').toString();
    }

    private static List<String> visibleFields() {
        List<String> names = new ArrayList<>();
        for (Field field : BusBridge.class.getDeclaredFields()) {
            if (!Modifier.isPrivate(field.getModifiers()) && !field.isSynthetic()) {
                names.add(field.getName());
            }
        }
        return names;
    }

    private static String sorted(List<String> names) {
        List<String> copy = new ArrayList<>(names);
        Collections.sort(copy);
        StringBuilder text = new StringBuilder();
        for (String name : copy) {
            text.append(name).append('\n');
        }
        return text.toString();
    }
}
