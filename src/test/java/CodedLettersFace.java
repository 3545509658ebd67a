import java.lang.reflect.Constructor;
import java.lang.reflect.Field;
import java.lang.reflect.Method;
import java.lang.reflect.Modifier;
import java.util.Arrays;
import java.util.TreeSet;

/** The public face stands as the document has it, and nothing else can be seen from outside. */
public final class CodedLettersFace {
    private static final String[] FACE = {
        "boolean unit(int)", "int word()", "boolean sign(int)", "boolean keep(int,int)",
        "boolean pair(int,int,int)", "int run(int)", "int steps()", "int letter(int,int)",
        "long rank(int)", "int best()", "int hint()", "int codewords()", "boolean plain(int)",
        "int shifted(int,int)", "int bestShift()", "int keyed(int,int)", "int breaks()",
        "int breakAt(int)", "void clear()"};
    private static int wrong = 0;

    public static void main(String[] args) {
        Class<?> type = CodedLetters.class;
        int modifiers = type.getModifiers();
        must("public and final", Modifier.isPublic(modifiers) && Modifier.isFinal(modifiers));
        TreeSet<String> seen = new TreeSet<>();
        TreeSet<String> names = new TreeSet<>();
        for (Method method : type.getDeclaredMethods()) {
            if (!Modifier.isPrivate(method.getModifiers()) && !method.isSynthetic()) {
                seen.add(signature(method));
                names.add(method.getName());
                must(method + " is public, not static", onlyPublic(method.getModifiers()));
                must(method + " declares no exception", method.getExceptionTypes().length == 0);
            }
        }
        must("the face is " + seen, seen.equals(new TreeSet<>(Arrays.asList(FACE))));
        for (Method method : type.getDeclaredMethods()) {
            boolean hidden = Modifier.isPrivate(method.getModifiers());
            must(method + " has a name of its own", !hidden || !names.contains(method.getName()));
        }
        Constructor<?>[] constructors = type.getDeclaredConstructors();
        must("one public constructor", constructors.length == 1
            && Modifier.isPublic(constructors[0].getModifiers())
            && constructors[0].getParameterCount() == 0);
        for (Field field : type.getDeclaredFields()) {
            must(field + " is private", Modifier.isPrivate(field.getModifiers()));
        }
        for (Class<?> inner : type.getDeclaredClasses()) {
            must(inner + " is static", Modifier.isStatic(inner.getModifiers()));
            must(inner + " is not public", !Modifier.isPublic(inner.getModifiers()));
        }
        System.out.println(wrong == 0 ? "the face is as due" : wrong + " faults in the face");
        if (wrong != 0) {
            System.exit(1);
        }
    }

    private static boolean onlyPublic(int modifiers) {
        return Modifier.isPublic(modifiers) && !Modifier.isStatic(modifiers);
    }

    private static String signature(Method method) {
        StringBuilder text = new StringBuilder();
        text.append(method.getReturnType()).append(' ').append(method.getName()).append('(');
        for (Class<?> parameter : method.getParameterTypes()) {
            text.append(text.charAt(text.length() - 1) == '(' ? "" : ",").append(parameter);
        }
        return text.append(')').toString();
    }

    private static void must(String what, boolean holds) {
        if (!holds) {
            wrong++;
            System.out.println("does not hold: " + what);
        }
    }
}
