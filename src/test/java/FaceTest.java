import java.lang.reflect.Constructor;
import java.lang.reflect.Field;
import java.lang.reflect.Method;
import java.lang.reflect.Modifier;
import java.util.Set;
import java.util.TreeSet;

/** The class has the document's face, and no other member that is not private. */
public final class FaceTest {
    private static final Set<String> FACE = Set.of(
        "public static final int ProcedureCode.NONE",
        "public ProcedureCode()",
        "public int ProcedureCode.cell(int,int,int)",
        "public int ProcedureCode.node(int,int,int)",
        "public int ProcedureCode.make(int)",
        "public int ProcedureCode.code(int,int)",
        "public int ProcedureCode.run(boolean,int)",
        "public byte ProcedureCode.at(boolean,int) throws java.lang.ArrayIndexOutOfBoundsException",
        "public int ProcedureCode.put(int,byte)",
        "public boolean ProcedureCode.fast(int)",
        "public int ProcedureCode.point(int)",
        "public int ProcedureCode.raised(boolean)",
        "public boolean ProcedureCode.same(int)");

    private static final Set<String> NAMES = Set.of(
        "cell", "node", "make", "code", "run", "at", "put", "fast", "point", "raised", "same");

    private static boolean isOpen(int modifiers) {
        return !Modifier.isPrivate(modifiers);
    }

    private static Set<String> openMembers() {
        Set<String> found = new TreeSet<>();
        for (Field f : ProcedureCode.class.getDeclaredFields()) {
            if (isOpen(f.getModifiers())) {
                found.add(f.toString());
            }
        }
        for (Constructor<?> c : ProcedureCode.class.getDeclaredConstructors()) {
            if (isOpen(c.getModifiers())) {
                found.add(c.toString());
            }
        }
        for (Method m : ProcedureCode.class.getDeclaredMethods()) {
            if (isOpen(m.getModifiers())) {
                found.add(m.toString());
            }
        }
        return found;
    }

    public static void main(String[] args) {
        Due.sentence("the public face, and no other member that is not private");
        Due.is("the members", openMembers().toString(), new TreeSet<>(FACE).toString());
        Due.is("the class", Modifier.toString(ProcedureCode.class.getModifiers()), "public final");
        Due.sentence("no private method bears the name of a public one");
        for (Class<?> inner : ProcedureCode.class.getDeclaredClasses()) {
            for (Method m : inner.getDeclaredMethods()) {
                Due.is(m + " bears the name of a public method", NAMES.contains(m.getName()), false);
            }
        }
        Due.sentence("classes inside are static, and not public");
        for (Class<?> inner : ProcedureCode.class.getDeclaredClasses()) {
            int modifiers = inner.getModifiers();
            Due.is(inner + " is static", Modifier.isStatic(modifiers), true);
            Due.is(inner + " is public or protected", Modifier.isPublic(modifiers) || Modifier.isProtected(modifiers), false);
        }
        Due.end();
    }
}
