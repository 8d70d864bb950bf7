import java.lang.reflect.Constructor;
import java.lang.reflect.Field;
import java.lang.reflect.Method;
import java.lang.reflect.Modifier;
import java.util.Set;
import java.util.TreeSet;

/** The class has the document's face, and no other member that is not private. */
public final class FaceTest {
    private static final Set<String> FACE = Set.of(
        "public static final int ProcedureCode.NONE",
        "public ProcedureCode()",
        "public int ProcedureCode.cell(int,int,int)",
        "public int ProcedureCode.node(int,int,int)",
        "public int ProcedureCode.make(int)",
        "public int ProcedureCode.code(int,int)",
        "public int ProcedureCode.run(boolean,int)",
        "public byte ProcedureCode.at(boolean,int) throws java.lang.ArrayIndexOutOfBoundsException",
        "public int ProcedureCode.put(int,byte)",
        "public boolean ProcedureCode.fast(int)",
        "public int ProcedureCode.point(int)",
        "public int ProcedureCode.raised(boolean)",
        "public boolean ProcedureCode.same(int)");

    private static final Set<String> NAMES = Set.of(
        "cell", "node", "make", "code", "run", "at", "put", "fast", "point", "raised", "same");

    private static boolean isOpen(int modifiers) {
        return !Modifier.isPrivate(modifiers);
    }

    private static Set<String> openMembers() {
        Set<String> found = new TreeSet<>();
        for (Field f : ProcedureCode.class.getDeclaredFields()) {
            if (isOpen(f.getModifiers())) {
                found.add(f.toString());
            }
        }
        for (Constructor<?> c : ProcedureCode.class.getDeclaredConstructors()) {
            if (isOpen(c.getModifiers())) {
                found.add(c.toString());
            }
        }
        for (Method m : ProcedureCode.class.getDeclaredMethods()) {
            if (isOpen(m.getModifiers())) {
                found.add(m.toString());
            }
        }
        return found;
    }

    public static void main(String[] args) {
        int wrong = 0;
        Set<String> found = openMembers();
        if (!found.equals(new TreeSet<>(FACE))) {
            wrong++;
            System.out.println("the face is " + found + ", due is " + new TreeSet<>(FACE));
        }
        if (ProcedureCode.class.getModifiers() != (Modifier.PUBLIC | Modifier.FINAL)) {
            wrong++;
            System.out.println("the class is " + Modifier.toString(ProcedureCode.class.getModifiers()));
        }
        for (Class<?> inner : ProcedureCode.class.getDeclaredClasses()) {
            for (Method m : inner.getDeclaredMethods()) {
                if (NAMES.contains(m.getName())) {
                    wrong++;
                    System.out.println(m + " bears the name of a public method");
                }
            }
        }
        System.out.println(wrong == 0 ? "the face is as due" : "the face is not as due");
        if (wrong != 0) {
            System.exit(1);
        }
    }
}
