import java.lang.reflect.Constructor;
import java.lang.reflect.Field;
import java.lang.reflect.Method;
import java.lang.reflect.Modifier;
import java.util.Set;
import java.util.TreeSet;

/** The public face, promises 1 to 17: the class shows "public final class SpoolRows" and nothing beside it. */
public final class FaceTest {
    private static final Set<String> FACE = Set.of(
            "output(int,int,int)", "line(int,int)", "limit(int,int,boolean)", "end(int)", "segment(int)",
            "writer(int)", "next(int)", "print(int,int)", "cut(int)", "purge(int)", "hold(int,boolean)",
            "route(int,int)", "search(int)", "order(int)", "state(int,int)", "count(int)");

    public static void main(String[] args) {
        Due due = new Due();
        due.is("NONE", SpoolRows.NONE, -1);
        due.holds("the class is public and final", Modifier.isPublic(SpoolRows.class.getModifiers())
                && Modifier.isFinal(SpoolRows.class.getModifiers()));
        due.holds("the methods are the document's", methodsSeen().equals(new TreeSet<>(FACE)));
        due.holds("the one field that is seen is NONE", fieldsSeen().equals(new TreeSet<>(Set.of("NONE"))));
        Constructor<?>[] constructors = SpoolRows.class.getDeclaredConstructors();
        due.is("constructors", constructors.length, 1);
        due.holds("the constructor is public", Modifier.isPublic(constructors[0].getModifiers()));
        due.finish();
    }

    private static Set<String> methodsSeen() {
        Set<String> seen = new TreeSet<>();
        for (Method m : SpoolRows.class.getDeclaredMethods()) {
            if (!Modifier.isPrivate(m.getModifiers()) && !m.isSynthetic()) {
                StringBuilder text = new StringBuilder(m.getName()).append('(');
                for (Class<?> type : m.getParameterTypes()) {
                    text.append(text.charAt(text.length() - 1) == '(' ? "" : ",").append(type.getName());
                }
                seen.add(text.append(')').append(m.getReturnType() == int.class ? "" : " answers no int").toString());
            }
        }
        return seen;
    }

    private static Set<String> fieldsSeen() {
        Set<String> seen = new TreeSet<>();
        for (Field f : SpoolRows.class.getDeclaredFields()) {
            if (!Modifier.isPrivate(f.getModifiers()) && !f.isSynthetic()) {
                seen.add(f.getName());
            }
        }
        return seen;
    }
}
