import java.lang.reflect.Constructor;
import java.lang.reflect.Field;
import java.lang.reflect.Method;
import java.lang.reflect.Modifier;
import java.util.TreeSet;

/** The public face, and rule 1 of LANGUAGE.md. */
final class FaceTest {
    private static final String ARGUMENT = " IllegalArgumentException";
    private static final String STATE = " IllegalStateException";
    private static final String NO_ELEMENT = " NoSuchElementException";
    private static final String[] FACE = {
        "register(int,int)" + ARGUMENT + STATE,
        "connect(int)" + ARGUMENT + STATE,
        "login(int,int)" + ARGUMENT + STATE,
        "prove(int,int)" + ARGUMENT + STATE + " UnsupportedOperationException",
        "bind(int,int)" + ARGUMENT + STATE,
        "here(int,int)" + ARGUMENT + STATE,
        "gone(int)" + ARGUMENT + STATE,
        "close(int)" + ARGUMENT + STATE,
        "message(int,int,int,int)" + ARGUMENT + STATE,
        "subscribe(int,int,int)" + ARGUMENT + STATE,
        "link(boolean)",
        "take(int)" + ARGUMENT + NO_ELEMENT,
        "taken(int)" + NO_ELEMENT + ARGUMENT,
        "roster(int,int)" + ARGUMENT,
        "connection(int,int)" + ARGUMENT,
        "count(int)" + ARGUMENT,
    };

    private static String signature(Method method) {
        StringBuilder text = new StringBuilder(method.getName()).append('(');
        for (Class<?> type : method.getParameterTypes()) {
            if (text.charAt(text.length() - 1) != '(') {
                text.append(',');
            }
            text.append(type.getSimpleName());
        }
        text.append(')');
        for (Class<?> type : method.getExceptionTypes()) {
            text.append(' ').append(type.getSimpleName());
        }
        return text.toString();
    }

    public static void main(String[] args) {
        Check.same("modifiers", XmppPair.class.getModifiers(), Modifier.PUBLIC | Modifier.FINAL);
        TreeSet<String> names = new TreeSet<>();
        TreeSet<String> face = new TreeSet<>();
        for (Method method : XmppPair.class.getDeclaredMethods()) {
            if (!Modifier.isPrivate(method.getModifiers())) {
                Check.same(method + " is public", Modifier.isPublic(method.getModifiers()), true);
                Check.same(method + " is static", Modifier.isStatic(method.getModifiers()), false);
                Check.same("the answer of " + method, method.getReturnType(), int.class);
                face.add(signature(method));
                names.add(method.getName());
            }
        }
        Check.same("the face", face, new TreeSet<>(java.util.List.of(FACE)));
        for (Method method : XmppPair.class.getDeclaredMethods()) {
            if (Modifier.isPrivate(method.getModifiers())) {
                Check.same(method + " bears a public name", names.contains(method.getName()), false);
            }
        }
        for (Field field : XmppPair.class.getDeclaredFields()) {
            Check.same(field + " is private", Modifier.isPrivate(field.getModifiers()), true);
            if (Modifier.isStatic(field.getModifiers())) {
                Check.same(field + " is final", Modifier.isFinal(field.getModifiers()), true);
            }
        }
        Constructor<?>[] constructors = XmppPair.class.getDeclaredConstructors();
        Check.same("constructors", constructors.length, 1);
        Check.same("the constructor's modifiers", constructors[0].getModifiers(), Modifier.PUBLIC);
        Check.same("the constructor's parameters", constructors[0].getParameterCount(), 0);
        Check.finish();
    }
}
