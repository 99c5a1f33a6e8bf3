import java.lang.reflect.Constructor;
import java.lang.reflect.Field;
import java.lang.reflect.Method;
import java.lang.reflect.Modifier;
import java.util.Arrays;
import java.util.TreeSet;

/** The face: nothing but private members beside the document's. */
public final class FaceTest {
    private static final String[] DUE = {
        "int octets(int,long)", "int read(boolean)", "int token(int,int)", "int sign(int,int)",
        "long number(int)", "boolean asked(int)", "int column(int)", "int comment(int,int)",
        "int print()", "int letter(int)", "int back()", "int told(int)", "int clear()",
    };

    public static void main(String[] args) {
        Checks checks = new Checks();
        TreeSet<String> methods = new TreeSet<>();
        for (Method method : LayoutTokens.class.getDeclaredMethods()) {
            if (Modifier.isPublic(method.getModifiers())) {
                methods.add(shown(method));
            } else {
                checks.due(method + " is private", Modifier.isPrivate(method.getModifiers()), true);
            }
        }
        checks.due("methods", methods.toString(), new TreeSet<>(Arrays.asList(DUE)).toString());
        for (Field field : LayoutTokens.class.getDeclaredFields()) {
            boolean isFace = field.getName().equals("NONE");
            checks.due(field + " is private", Modifier.isPrivate(field.getModifiers()), !isFace);
        }
        Constructor<?>[] constructors = LayoutTokens.class.getDeclaredConstructors();
        checks.due("constructors", constructors.length, 1);
        checks.due("public", Modifier.isPublic(constructors[0].getModifiers()), true);
        checks.due("final", Modifier.isFinal(LayoutTokens.class.getModifiers()), true);
        checks.end();
    }

    private static String shown(Method method) {
        StringBuilder all = new StringBuilder(method.getReturnType().getName());
        all.append(' ').append(method.getName()).append('(');
        Class<?>[] types = method.getParameterTypes();
        for (int i = 0; i < types.length; i++) {
            all.append(i > 0 ? "," : "").append(types[i].getName());
        }
        return all.append(')').toString();
    }
}
