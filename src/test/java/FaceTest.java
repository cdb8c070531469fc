import java.lang.reflect.Constructor;
import java.lang.reflect.Field;
import java.lang.reflect.Method;
import java.lang.reflect.Modifier;
import java.util.Arrays;
import java.util.Set;
import java.util.TreeSet;

/** The public face: all that the document names, and no more. */
public final class FaceTest {
    private static final String THROWS = " throws [class java.lang.IllegalArgumentException]";

    public static void main(String[] args) {
        Class<?> face = ReferenceMover.class;
        Check.due("NONE", ReferenceMover.NONE, -1);
        Check.due("modifiers", face.getModifiers(), Modifier.PUBLIC | Modifier.FINAL);
        methods(face);
        constants(face);
        classesInside(face);
        for (Field field : face.getDeclaredFields()) {
            boolean isNone = field.getName().equals("NONE");
            Check.due(field.getName() + " is private", isPrivate(field.getModifiers()), isNone ? 0 : 1);
            boolean isStatic = Modifier.isStatic(field.getModifiers());
            Check.yes(field.getName() + " is final if static",
                    !isStatic || Modifier.isFinal(field.getModifiers()));
        }
        Constructor<?>[] constructors = face.getDeclaredConstructors();
        Check.due("constructors", constructors.length, 1);
        Check.due("constructor's parameters", constructors[0].getParameterCount(), 0);
        Check.due("constructor's modifiers", constructors[0].getModifiers(), Modifier.PUBLIC);
        Check.end();
    }

    private static void methods(Class<?> face) {
        Set<String> due = new TreeSet<>(Arrays.asList(
                "void clear()",
                "boolean other(int)",
                "boolean place(int,int,int,int)",
                "boolean range(int,int,int,int,int,int)",
                "int size()",
                "int word(int)",
                "int copy(int,int)" + THROWS,
                "int insert(int,int,boolean,int,int)" + THROWS,
                "int delete(int,int,boolean,int,int)" + THROWS,
                "boolean rectangle(int,int,int,int,int)",
                "int move(int,int,int,int,int)" + THROWS));
        Set<String> got = new TreeSet<>();
        Set<String> publicNames = new TreeSet<>();
        for (Method method : face.getDeclaredMethods()) {
            if (!Modifier.isPrivate(method.getModifiers())) {
                got.add(described(method));
                publicNames.add(method.getName());
                Check.due(method + " modifiers", method.getModifiers(), Modifier.PUBLIC);
            }
        }
        if (!got.equals(due)) {
            Check.fail("the methods are " + got + ", due is " + due);
        }
        for (Method method : face.getDeclaredMethods()) {
            if (Modifier.isPrivate(method.getModifiers())) {
                Check.no(method + " has a public name", publicNames.contains(method.getName()));
            }
        }
    }

    private static void constants(Class<?> face) {
        StringBuilder got = new StringBuilder();
        for (Field field : face.getFields()) {
            got.append(Modifier.toString(field.getModifiers())).append(' ');
            got.append(field.getType().getName()).append(' ').append(field.getName()).append(';');
        }
        if (!got.toString().equals("public static final int NONE;")) {
            Check.fail("the constants are " + got);
        }
    }

    private static void classesInside(Class<?> face) {
        for (Class<?> inside : face.getDeclaredClasses()) {
            int modifiers = inside.getModifiers();
            Check.yes(inside + " is static", Modifier.isStatic(modifiers));
            Check.no(inside + " is public", Modifier.isPublic(modifiers));
            Check.no(inside + " is protected", Modifier.isProtected(modifiers));
        }
    }

    private static String described(Method method) {
        StringBuilder text = new StringBuilder(method.getReturnType().getName());
        text.append(' ').append(method.getName()).append('(');
        for (Class<?> parameter : method.getParameterTypes()) {
            text.append(text.charAt(text.length() - 1) == '(' ? "" : ",").append(parameter.getName());
        }
        text.append(')');
        if (method.getExceptionTypes().length > 0) {
            text.append(" throws ").append(Arrays.toString(method.getExceptionTypes()));
        }
        return text.toString();
    }

    private static int isPrivate(int modifiers) {
        return Modifier.isPrivate(modifiers) ? 1 : 0;
    }
}
