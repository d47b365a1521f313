import java.lang.reflect.Constructor;
import java.lang.reflect.Field;
import java.lang.reflect.Method;
import java.lang.reflect.Modifier;
import java.util.Arrays;
import java.util.HashSet;
import java.util.Set;
import java.util.TreeSet;

/** The public face: what can be seen of the class from outside is what the document shows. */
public final class FaceTest {
    private static final String[] FACE = {
        "int feed(int,int,int,int,int) IllegalStateException",
        "int trim(int) IllegalArgumentException",
        "int teach()",
        "int errorAt()",
        "int count(int) IndexOutOfBoundsException",
        "int peak(int,int) IndexOutOfBoundsException",
        "int pass(int,int) IndexOutOfBoundsException",
        "int message(int,int) IndexOutOfBoundsException",
        "boolean hasSun(int,int) IndexOutOfBoundsException IllegalArgumentException",
        "boolean isOpen(int,int) IndexOutOfBoundsException IllegalArgumentException",
        "int way(int,int) IndexOutOfBoundsException",
        "int first(int,int) IndexOutOfBoundsException",
        "int mirror(int,boolean) IndexOutOfBoundsException IllegalStateException",
        "int stop(int) IndexOutOfBoundsException IllegalStateException",
        "int forward(int,int) IndexOutOfBoundsException IllegalArgumentException IllegalStateException",
        "int go(int) IllegalArgumentException",
        "int until(int) IndexOutOfBoundsException",
        "int opens(int) IndexOutOfBoundsException",
        "int foresee(int,int) IllegalArgumentException IndexOutOfBoundsException",
        "int missed(int) IllegalArgumentException",
        "int advise(int) IllegalArgumentException",
        "double mean()",
        "long digest()",
    };

    public static void main(String[] args) {
        Class<?> face = Heliographs.class;
        Check.due("class is public and final", Modifier.PUBLIC | Modifier.FINAL, face.getModifiers());
        Set<String> names = methods(face);
        members(face);
        classesInside(face, names);
        Check.end();
    }

    private static Set<String> methods(Class<?> face) {
        Set<String> due = new TreeSet<>(Arrays.asList(FACE));
        Set<String> names = new HashSet<>();
        for (Method method : face.getDeclaredMethods()) {
            if (!Modifier.isPrivate(method.getModifiers())) {
                Check.due("modifiers of " + method, Modifier.PUBLIC, method.getModifiers());
                Check.due(written(method) + " is of the document", true, due.remove(written(method)));
                names.add(method.getName());
            }
        }
        Check.due("methods that are not there " + due, 0, due.size());
        return names;
    }

    private static String written(Method method) {
        StringBuilder text = new StringBuilder(method.getReturnType() + " " + method.getName() + "(");
        for (Class<?> type : method.getParameterTypes()) {
            text.append(text.charAt(text.length() - 1) == '(' ? "" : ",").append(type);
        }
        text.append(")");
        for (Class<?> type : method.getExceptionTypes()) {
            text.append(" ").append(type.getSimpleName());
        }
        return text.toString();
    }

    private static void members(Class<?> face) {
        Constructor<?>[] constructors = face.getDeclaredConstructors();
        Check.due("constructors", 1, constructors.length);
        Check.due("parameters of the constructor", 0, constructors[0].getParameterCount());
        Check.due("constructor is public", Modifier.PUBLIC, constructors[0].getModifiers());
        for (Field field : face.getDeclaredFields()) {
            int modifiers = field.getModifiers();
            Check.due(field + " is private", true, Modifier.isPrivate(modifiers));
            Check.due(field + " is final, if static", true, !Modifier.isStatic(modifiers) || Modifier.isFinal(modifiers));
        }
    }

    private static void classesInside(Class<?> face, Set<String> names) {
        Class<?>[] inside = face.getDeclaredClasses();
        Check.due("at most some twelve classes", true, inside.length <= 12);
        for (Class<?> one : inside) {
            Check.due(one + " is static", true, Modifier.isStatic(one.getModifiers()));
            Check.due(one + " is not public", false, Modifier.isPublic(one.getModifiers()));
            for (Method method : one.getDeclaredMethods()) {
                Check.due(method + " has a name of the face", false, names.contains(method.getName()));
            }
        }
    }
}
