import java.lang.reflect.Constructor;
import java.lang.reflect.Field;
import java.lang.reflect.Method;
import java.lang.reflect.Modifier;
import java.util.Set;
import java.util.TreeSet;

/** The public face of the document, with nothing more that is not private. */
public final class FaceTest {
    private static final String FACE = "int make(int,int,int); int lay(int,int); int places(int); "
        + "int kind(int); int tag(int); int load(int); int put(int,int,int,int,int); "
        + "int putBoxed(int,int,int,int,int); int putThing(int,int,int); long number(int,int,int); "
        + "double point(int,int,int); int what(int,int); int take(int,int,int); int copy(int,int); "
        + "int gather(int,int,int); int scatter(int,int,int); int merge(int,int,int); int sort(int); "
        + "int turn(int,int); long sum(int); double total(int); int find(int,int,int,int,int); "
        + "int alike(int,int); int why()";

    public static void main(String[] args) {
        Check check = new Check();
        Set<String> want = new TreeSet<>(Set.of(FACE.split("; ")));
        Set<String> got = new TreeSet<>();
        for (Method method : ColumnHouse.class.getDeclaredMethods()) {
            if (!Modifier.isPrivate(method.getModifiers()) && !method.isSynthetic()) {
                check.due(method + " is public, not static",
                    method.getModifiers() & ~Modifier.FINAL, Modifier.PUBLIC);
                got.add(text(method));
            } else {
                check.due(method + " bears a name of the face", FACE.contains(" " + method.getName() + "("), false);
            }
        }
        check.due("the methods", got, want);
        for (Field field : ColumnHouse.class.getDeclaredFields()) {
            check.due(field + " is private", Modifier.isPrivate(field.getModifiers()), true);
            if (Modifier.isStatic(field.getModifiers())) {
                check.due(field + " is final", Modifier.isFinal(field.getModifiers()), true);
            }
        }
        Constructor<?>[] constructors = ColumnHouse.class.getDeclaredConstructors();
        check.due("constructors", constructors.length, 1);
        check.due("the constructor's parameters", constructors[0].getParameterCount(), 0);
        check.due("the constructor is public", Modifier.isPublic(constructors[0].getModifiers()), true);
        check.due("the class", ColumnHouse.class.getModifiers(), Modifier.PUBLIC | Modifier.FINAL);
        check.end("FaceTest");
    }

    private static String text(Method method) {
        StringBuilder text = new StringBuilder();
        text.append(method.getReturnType().getName()).append(' ').append(method.getName()).append('(');
        for (Class<?> parameter : method.getParameterTypes()) {
            text.append(text.charAt(text.length() - 1) == '(' ? "" : ",").append(parameter.getName());
        }
        return text.append(')').toString();
    }
}
