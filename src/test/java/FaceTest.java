import java.lang.reflect.Constructor;
import java.lang.reflect.Field;
import java.lang.reflect.Method;
import java.lang.reflect.Modifier;
import java.util.Set;
import java.util.TreeSet;

/** The face is that of the document, with no other member that is not private. */
public final class FaceTest {
    private static final String[] FACE = {
        "public static final int TriangleSets.NONE",
        "public TriangleSets()",
        "public int TriangleSets.variable(boolean)",
        "public boolean TriangleSets.order(int,int)",
        "public int TriangleSets.polynomial()",
        "public boolean TriangleSets.term(int,long,int)",
        "public boolean TriangleSets.use(int,boolean)",
        "public int TriangleSets.decompose()",
        "public int TriangleSets.prove(int)",
        "public int TriangleSets.member(int,int)",
        "public int TriangleSets.told(int)",
        "public long TriangleSets.coefficient(int,int,int)",
        "public int TriangleSets.powers(int,int,int)",
        "public boolean TriangleSets.point(int,long)",
        "public long TriangleSets.value(int,int)",
        "public long TriangleSets.quotient(int)",
        "public long TriangleSets.pseudo(long,long) throws java.lang.ArithmeticException",
    };

    public static void main(String[] args) {
        Set<String> found = new TreeSet<>();
        for (Field field : TriangleSets.class.getDeclaredFields()) {
            addUnlessPrivate(found, field.getModifiers(), field.toString());
        }
        for (Constructor<?> constructor : TriangleSets.class.getDeclaredConstructors()) {
            addUnlessPrivate(found, constructor.getModifiers(), constructor.toString());
        }
        for (Method method : TriangleSets.class.getDeclaredMethods()) {
            addUnlessPrivate(found, method.getModifiers(), method.toString());
        }
        Check check = new Check();
        for (String member : FACE) {
            check.due(member + " is there", found.remove(member), true);
        }
        check.due("members beyond the face " + found, found.size(), 0);
        check.due("final", Modifier.isFinal(TriangleSets.class.getModifiers()), true);
        check.due("NONE", TriangleSets.NONE, -1);
        check.end();
    }

    private static void addUnlessPrivate(Set<String> found, int modifiers, String text) {
        if (!Modifier.isPrivate(modifiers)) {
            found.add(text);
        }
    }
}
