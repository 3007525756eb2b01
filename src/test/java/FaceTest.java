import java.lang.reflect.Constructor;
import java.lang.reflect.Field;
import java.lang.reflect.Method;
import java.lang.reflect.Modifier;
import java.util.Set;
import java.util.TreeSet;

/** The public face, and LANGUAGE.md's rules 1 and 5 as far as the compiled class shows them. */
public final class FaceTest {
    private static final Set<String> FACE = Set.of(
            "long encode(int,int,int,int)", "int decode(long,int)", "void number(int,int,long)",
            "void address(int,int,int,int)", "void start(int,int,int)", "int run(int)", "int failure()",
            "int register(int,boolean)", "int segment(int,int)", "long value(int,int)", "int rows()",
            "long traced(int,int)", "int begins(int)", "long relocated(int)", "long reckon(int,long,long)");

    public static void main(String[] args) {
        Set<String> found = new TreeSet<>();
        Set<String> publicNames = new TreeSet<>();
        for (Method method : FieldTrace.class.getDeclaredMethods()) {
            if (!Modifier.isPrivate(method.getModifiers())) {
                found.add(signature(method));
                publicNames.add(method.getName());
                holds(Modifier.isPublic(method.getModifiers()), method + " is public");
            }
        }
        holds(found.equals(new TreeSet<>(FACE)), "the face is " + found);
        holds(Modifier.isFinal(FieldTrace.class.getModifiers()), "the class is final");
        Constructor<?>[] constructors = FieldTrace.class.getDeclaredConstructors();
        holds(constructors.length == 1 && Modifier.isPublic(constructors[0].getModifiers()), "one constructor");
        privateMembers(FieldTrace.class, publicNames, true);
        for (Class<?> inside : FieldTrace.class.getDeclaredClasses()) {
            holds(Modifier.isStatic(inside.getModifiers()), inside + " is static");
            privateMembers(inside, publicNames, false);
        }
        Check.end();
    }

    private static void privateMembers(Class<?> type, Set<String> publicNames, boolean outer) {
        for (Method method : type.getDeclaredMethods()) {
            boolean own = outer && Modifier.isPublic(method.getModifiers());
            holds(own || !publicNames.contains(method.getName()), method + " has a name of its own");
        }
        for (Field field : type.getDeclaredFields()) {
            int modifiers = field.getModifiers();
            holds(!outer || Modifier.isPrivate(modifiers), field + " is private");
            holds(!Modifier.isStatic(modifiers) || Modifier.isFinal(modifiers), field + " is final");
        }
    }

    private static String signature(Method method) {
        StringBuilder text = new StringBuilder(method.getReturnType().getName() + " " + method.getName() + "(");
        for (Class<?> type : method.getParameterTypes()) {
            text.append(text.charAt(text.length() - 1) == '(' ? "" : ",").append(type.getName());
        }
        return text.append(")").toString();
    }

    private static void holds(boolean condition, String what) {
        Check.due(what, condition ? 1 : 0, 1);
    }
}
