import java.lang.reflect.Constructor;
import java.lang.reflect.Field;
import java.lang.reflect.Method;
import java.lang.reflect.Modifier;
import java.util.Arrays;
import java.util.Set;
import java.util.TreeSet;

/** The public face: the document's constructor and methods, and nothing else that is not private. */
public final class FaceTest {
    private static final String[] FACE = {
        "public boolean ExactFloats.lost()",
        "public boolean ExactFloats.set(int,long)",
        "public int ExactFloats.change(int,int,int)",
        "public int ExactFloats.compare(int,int,int)",
        "public int ExactFloats.less(int,int,int,int)",
        "public int ExactFloats.negative(int,int,int)",
        "public int ExactFloats.number(int,int,int)",
        "public int ExactFloats.product(int,int,int,int)",
        "public int ExactFloats.quotient(int,int,int,int)",
        "public int ExactFloats.sum(int,int,int,int)",
        "public int ExactFloats.whole(int,int,int,boolean,int)",
        "public long ExactFloats.get(int)",
        "public void ExactFloats.under(boolean)",
    };

    public static void main(String[] args) {
        Check check = new Check();
        Class<?> type = ExactFloats.class;
        check.due("the class's modifiers", type.getModifiers(), Modifier.PUBLIC | Modifier.FINAL);
        Set<String> seen = new TreeSet<>();
        Set<String> open = new TreeSet<>();
        for (Method m : type.getDeclaredMethods()) {
            if (!Modifier.isPrivate(m.getModifiers())) {
                seen.add(m.toString());
                open.add(m.getName());
            }
        }
        check.due("methods that are not private " + seen, seen.equals(new TreeSet<>(Arrays.asList(FACE))), true);
        for (Method m : type.getDeclaredMethods()) {
            boolean shares = Modifier.isPrivate(m.getModifiers()) && open.contains(m.getName());
            check.due(m + " bears a public name", shares, false);
        }
        for (Field f : type.getDeclaredFields()) {
            check.due(f + " is private", Modifier.isPrivate(f.getModifiers()), true);
        }
        Constructor<?>[] made = type.getDeclaredConstructors();
        check.due("constructors", made.length, 1);
        check.due("public ExactFloats()", made[0].toString().equals("public ExactFloats()"), true);
        check.end();
    }
}
