import java.lang.reflect.Constructor;
import java.lang.reflect.Field;
import java.lang.reflect.Method;
import java.lang.reflect.Modifier;
import java.util.ArrayList;
import java.util.Arrays;
import java.util.HashSet;
import java.util.List;
import java.util.Set;
import java.util.TreeSet;

/** The face is that of the document, and nothing more is open. */
public final class FaceTest {
    private static final String[] FACE = {
        "int addWord(int,int,int) IllegalArgumentException IllegalStateException",
        "int setWord(int,int,int,int) IndexOutOfBoundsException IllegalArgumentException",
        "int addRule(int,int,int,int) IllegalArgumentException IllegalStateException",
        "int dropRule() IllegalStateException",
        "int say(int) IndexOutOfBoundsException IllegalStateException",
        "int change(int,int) IndexOutOfBoundsException",
        "int hush()",
        "int said()",
        "int wordAt(int) IndexOutOfBoundsException",
        "int readings()",
        "int readingsPlainly()",
        "int readingsOf(int,int,int) IndexOutOfBoundsException",
        "boolean has(int,int,int,int) IndexOutOfBoundsException IllegalArgumentException",
        "int level()",
        "int sentences(int) IllegalArgumentException",
        "int sentence(int,int) IllegalArgumentException",
        "float share(int) IllegalArgumentException",
        "int spoil(int) IndexOutOfBoundsException",
        "int changes()",
        "int correction(int) IndexOutOfBoundsException",
    };

    private static final Check check = new Check("FaceTest");

    public static void main(String[] args) {
        Class<?> gym = SentenceGym.class;
        check.equal("the class", gym.getModifiers(), Modifier.PUBLIC | Modifier.FINAL);
        check.equal("the class above", gym.getSuperclass(), Object.class);
        check.equal("interfaces", gym.getInterfaces().length, 0);
        methods(gym);
        fields(gym);
        constructors(gym);
        namesInside(gym);
        check.end();
    }

    private static String faceOf(Method method) {
        StringBuilder face = new StringBuilder();
        face.append(method.getReturnType().getSimpleName()).append(' ').append(method.getName()).append('(');
        List<String> types = new ArrayList<>();
        for (Class<?> type : method.getParameterTypes()) {
            types.add(type.getSimpleName());
        }
        face.append(String.join(",", types)).append(')');
        for (Class<?> thrown : method.getExceptionTypes()) {
            face.append(' ').append(thrown.getSimpleName());
        }
        return face.toString();
    }

    private static void methods(Class<?> gym) {
        Set<String> open = new TreeSet<>();
        for (Method method : gym.getDeclaredMethods()) {
            if (!Modifier.isPrivate(method.getModifiers())) {
                check.equal(method.getName() + " is public", method.getModifiers(), Modifier.PUBLIC);
                open.add(faceOf(method));
            }
        }
        check.equal("methods", open, new TreeSet<>(Arrays.asList(FACE)));
    }

    private static void fields(Class<?> gym) {
        for (Field field : gym.getDeclaredFields()) {
            boolean isConstant = field.getName().equals("NONE");
            check.isTrue(field.getName() + " is private", isConstant || Modifier.isPrivate(field.getModifiers()));
            check.isTrue(field.getName() + " is final if static",
                    !Modifier.isStatic(field.getModifiers()) || Modifier.isFinal(field.getModifiers()));
            if (isConstant) {
                check.equal("NONE's modifiers", field.getModifiers(), Modifier.PUBLIC | Modifier.STATIC | Modifier.FINAL);
                check.equal("NONE's type", field.getType(), int.class);
            }
        }
    }

    private static void constructors(Class<?> gym) {
        Constructor<?>[] constructors = gym.getDeclaredConstructors();
        check.equal("constructors", constructors.length, 1);
        check.equal("the constructor", constructors[0].getModifiers(), Modifier.PUBLIC);
        check.equal("its parameters", constructors[0].getParameterCount(), 0);
    }

    private static void namesInside(Class<?> gym) {
        Set<String> publicNames = new HashSet<>();
        for (String face : FACE) {
            publicNames.add(face.substring(face.indexOf(' ') + 1, face.indexOf('(')));
        }
        for (Class<?> inside : gym.getDeclaredClasses()) {
            int modifiers = inside.getModifiers();
            check.isTrue(inside.getName() + " is static", Modifier.isStatic(modifiers));
            check.isFalse(inside.getName() + " is open", Modifier.isPublic(modifiers) || Modifier.isProtected(modifiers));
            for (Method method : inside.getDeclaredMethods()) {
                check.isFalse(method.getName() + " has a public one's name", publicNames.contains(method.getName()));
            }
        }
        for (Method method : gym.getDeclaredMethods()) {
            if (Modifier.isPrivate(method.getModifiers())) {
                check.isFalse(method.getName() + " has a public one's name", publicNames.contains(method.getName()));
            }
        }
    }
}
