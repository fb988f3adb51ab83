import java.io.IOException;
import java.lang.reflect.Constructor;
import java.lang.reflect.Field;
import java.lang.reflect.Method;
import java.lang.reflect.Modifier;
import java.nio.file.Files;
import java.nio.file.Path;
import java.util.ArrayList;
import java.util.Arrays;
import java.util.Collections;
import java.util.List;

/** The public face of the document, and the rules of LANGUAGE.md that can be seen without reading the program. */
public final class FaceTest {
    private static final Checks CHECKS = new Checks("FaceTest");
    private static final String SOURCE = "src/main/java/FretSchool.java";
    private static final String[] FACE = {
        "int begin(0) State", "int addNote(2) Index Argument State", "void transpose(2) Index Argument State",
        "int pitch(2) Index", "int tune(3) Index Argument", "int owner(1) Index", "int instruments(0)",
        "int shifts(2) Index", "int shiftsByAll(2) Index State", "int hardest(2) Index", "int position(3) Index",
        "int string(3) Index", "int learn(3) Index Argument State", "int level(1) Argument", "int known(1) Argument",
        "int next(1) Argument", "int addWood(2) Argument", "int order(3) Argument State", "int ready(1) Index",
        "int fetch(5) Index Argument State", "int pass(1) Argument State", "int today(0)"};
    /** What the rules 2, 4, 5, 6 and 10 leave out; the program needs no library but Math. */
    private static final String[] LEFT_OUT = {
        "import ", "package ", "->", "::", "catch", "finally", "synchronized", "assert", "instanceof", "static {",
        "System", "Exact", "hashCode", "toString", "double", "float", "Object", "String ", "ArrayList"};

    public static void main(String[] args) throws IOException {
        members();
        nestedClasses();
        source();
        CHECKS.end();
    }

    private static void members() {
        if (FretSchool.class.getModifiers() != (Modifier.PUBLIC | Modifier.FINAL)) {
            CHECKS.fail("the class is not public and final");
        }
        List<String> face = new ArrayList<>();
        List<String> hidden = new ArrayList<>();
        for (Method method : FretSchool.class.getDeclaredMethods()) {
            if (Modifier.isPrivate(method.getModifiers())) {
                hidden.add(method.getName());
            } else {
                face.add(told(method));
            }
        }
        List<String> due = new ArrayList<>(Arrays.asList(FACE));
        Collections.sort(due);
        Collections.sort(face);
        if (!face.equals(due)) {
            CHECKS.fail("the face is " + face + ", due is " + due);
        }
        for (String method : FACE) {
            String name = method.substring(method.indexOf(' ') + 1, method.indexOf('('));
            if (hidden.contains(name)) {
                CHECKS.fail("a private method bears the public name " + name);
            }
        }
        for (Field field : FretSchool.class.getDeclaredFields()) {
            boolean isNone = field.getName().equals("NONE")
                    && field.getModifiers() == (Modifier.PUBLIC | Modifier.STATIC | Modifier.FINAL);
            if (!isNone && !Modifier.isPrivate(field.getModifiers())) {
                CHECKS.fail("the field " + field.getName() + " can be seen");
            }
        }
        Constructor<?>[] constructors = FretSchool.class.getDeclaredConstructors();
        CHECKS.same("constructors", constructors.length, 1);
        CHECKS.same("the constructor's parameters", constructors[0].getParameterCount(), 0);
    }

    private static String told(Method method) {
        StringBuilder told = new StringBuilder(method.getReturnType().getName());
        told.append(' ').append(method.getName()).append('(').append(method.getParameterCount()).append(')');
        for (Class<?> thrown : method.getExceptionTypes()) {
            told.append(thrown == Checks.INDEX ? " Index" : thrown == Checks.ARGUMENT ? " Argument"
                    : thrown == Checks.STATE ? " State" : " " + thrown.getName());
        }
        return told.toString();
    }

    private static void nestedClasses() {
        for (Class<?> nested : FretSchool.class.getDeclaredClasses()) {
            int modifiers = nested.getModifiers();
            if (!Modifier.isStatic(modifiers) || Modifier.isPublic(modifiers) || Modifier.isProtected(modifiers)) {
                CHECKS.fail(nested.getName() + " is not static and hidden");
            }
            for (Field field : nested.getDeclaredFields()) {
                if (Modifier.isStatic(field.getModifiers()) && !Modifier.isFinal(field.getModifiers())) {
                    CHECKS.fail(field.getName() + " is static and not final");
                }
            }
        }
    }

    private static void source() throws IOException {
        String source = Files.readString(Path.of(SOURCE)).replaceAll("\"[^\"]*\"", "\"\"");
        String code = source.replaceAll("(?s)/\\*.*?\\*/", "").replaceAll("//.*", "");
        for (String leftOut : LEFT_OUT) {
            if (code.contains(leftOut)) {
                CHECKS.fail("the program has " + leftOut);
            }
        }
    }
}
