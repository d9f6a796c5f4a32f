import java.io.IOException;
import java.lang.reflect.Constructor;
import java.lang.reflect.Field;
import java.lang.reflect.Method;
import java.lang.reflect.Modifier;
import java.nio.file.Files;
import java.nio.file.Path;
import java.util.Arrays;
import java.util.Set;
import java.util.TreeSet;
import java.util.regex.Pattern;

/** The document's face, and those of the language's rules that can be seen from outside the class or in its text. */
public final class FaceTest {
    private static final String SOURCE = "src/main/java/JavaBridge.java";
    private static final String[] FACE = {
        "int number(int, int, long)", "int move(int, int)", "int kind(int)", "long value(int)", "int same(int, int)",
        "long cell(int, int)", "int set(int, int, int)", "int members(int)", "int member(int, int, int)",
        "int declare(int, int, int, int, int, int, int)", "int word(int, int)", "int call(int, int, int, int, int)",
        "int row(int, int, int, int, int, int)", "int latest()", "int started(int)",
        "int share() throws java.lang.ArithmeticException",
    };
    private static final String[] CLOSED = {
        "\\bimport\\b", "\\bpackage\\b", "\\bcatch\\b", "\\bfinally\\b", "\\bsynchronized\\b", "\\bassert\\b", "->", "::",
        "\\bDouble\\b", "\\bSystem\\b", "\\bObject\\b", "\\w+Exact\\b", "\\bstatic \\{",
    };

    public static void main(String[] args) throws IOException {
        classItself();
        methods();
        fields();
        classesInside();
        text();
        Checks.finish("FaceTest");
    }

    private static void classItself() {
        Checks.due("the class is public and final", JavaBridge.class.getModifiers(), Modifier.PUBLIC | Modifier.FINAL);
        Constructor<?>[] makers = JavaBridge.class.getDeclaredConstructors();
        Checks.due("constructors", makers.length, 1);
        Checks.due("the constructor is public", makers[0].getModifiers(), Modifier.PUBLIC);
        Checks.due("it takes nothing", makers[0].getParameterCount(), 0);
        Checks.holds("nothing above it but Object", JavaBridge.class.getSuperclass() == Object.class);
    }

    private static String told(Method method) {
        String in = Arrays.toString(method.getParameterTypes());
        String out = method.getReturnType() + " " + method.getName() + "(" + in.substring(1, in.length() - 1) + ")";
        Class<?>[] thrown = method.getExceptionTypes();
        return thrown.length == 0 ? out : out + " throws " + thrown[0].getName();
    }

    private static void methods() {
        Set<String> open = new TreeSet<>();
        Set<String> openNames = new TreeSet<>();
        for (Method method : JavaBridge.class.getDeclaredMethods()) {
            if (!Modifier.isPrivate(method.getModifiers())) {
                Checks.due(told(method) + " is public and no more", method.getModifiers(), Modifier.PUBLIC);
                open.add(told(method));
                openNames.add(method.getName());
            }
        }
        Checks.holds("the face is that of the document: " + open, open.equals(new TreeSet<>(Arrays.asList(FACE))));
        for (Class<?> owner : allClasses()) {
            for (Method method : owner.getDeclaredMethods()) {
                boolean isOfFace = owner == JavaBridge.class && Modifier.isPublic(method.getModifiers());
                Checks.holds(told(method) + " has a name of its own", isOfFace || !openNames.contains(method.getName()));
                Checks.holds(told(method) + " takes seven at most", method.getParameterCount() <= 7);
            }
        }
    }

    private static Class<?>[] allClasses() {
        Class<?>[] inside = JavaBridge.class.getDeclaredClasses();
        Class<?>[] all = Arrays.copyOf(inside, inside.length + 1);
        all[inside.length] = JavaBridge.class;
        return all;
    }

    private static void fields() {
        for (Field field : JavaBridge.class.getDeclaredFields()) {
            boolean isNothing = field.getName().equals("NOTHING");
            Checks.holds(field + " is private, or NOTHING", isNothing || Modifier.isPrivate(field.getModifiers()));
        }
        for (Class<?> owner : allClasses()) {
            int own = 0;
            for (Field field : owner.getDeclaredFields()) {
                boolean isStatic = Modifier.isStatic(field.getModifiers());
                Checks.holds(field + " is final if static", !isStatic || Modifier.isFinal(field.getModifiers()));
                own += isStatic ? 0 : 1;
            }
            Checks.holds(owner + " has twenty fields at most", own <= 20);
        }
    }

    private static void classesInside() {
        Class<?>[] inside = JavaBridge.class.getDeclaredClasses();
        Checks.holds("twelve classes at most", inside.length < 12);
        for (Class<?> one : inside) {
            Checks.holds(one + " is static", Modifier.isStatic(one.getModifiers()));
            Checks.holds(one + " is not open", !Modifier.isPublic(one.getModifiers()) && !Modifier.isProtected(one.getModifiers()));
        }
    }

    private static void text() throws IOException {
        String code = Files.readString(Path.of(SOURCE)).replaceAll("(?s)/\\*.*?\\*/", "").replaceAll("//.*", "");
        for (String closed : CLOSED) {
            Checks.holds("no " + closed, !Pattern.compile(closed).matcher(code).find());
        }
        Checks.due("one throw alone, that of share()", code.split("\\bthrow\\b", -1).length - 1, 1);
    }
}
