import java.lang.reflect.Constructor;
import java.lang.reflect.Field;
import java.lang.reflect.Method;
import java.lang.reflect.Modifier;
import java.util.Arrays;
import java.util.TreeSet;

/** The public face is the document's, and nothing else can be seen from outside. */
public final class FaceTest {
    private static final String[] FACE = {
        "int reset()", "int itemCount()", "int append(char)", "int insert(int)", "int errorPosition()",
        "int remove(int)", "int move(int,int)", "int item(int,int)", "char nameCharacter(int,int)",
        "int setForm(int,int)", "int totalSize()", "int padding()", "int labelAddress(int)",
        "int itemAt(int)", "int addressIf(int,int)", "int possibleAddresses(int)",
        "int transferCount()", "int formCount(int)", "int undefinedCount()", "int displacement(int)",
        "boolean fits(int)", "int misfits()", "int neededForm(int)", "int relax()", "int shrink()",
        "int leastSize()", "int optimize()", "int consistentChoices()", "double averageForm()",
        "int poolCount()", "int literalCount(int)", "int literal(int,int)",
        "int literalAddress(int,int)", "int poolOf(int)", "int distance(int)",
        "int loadsOutOfReach()", "int slack(int)", "int undo()", "int save()", "int restore()",
    };

    public static void main(String[] args) {
        TreeSet<String> seen = new TreeSet<>();
        for (Method m : BranchRelaxer.class.getDeclaredMethods()) {
            if (!Modifier.isPrivate(m.getModifiers()) && !m.isSynthetic()) {
                String full = m.toString();
                String parameters = full.substring(full.indexOf('('), full.indexOf(')') + 1);
                seen.add(m.getReturnType() + " " + m.getName() + parameters);
                Expect.due(m.getName() + " is public", true, Modifier.isPublic(m.getModifiers()));
                Expect.due(m.getName() + " is static", false, Modifier.isStatic(m.getModifiers()));
            }
        }
        Expect.due("the methods", new TreeSet<>(Arrays.asList(FACE)), seen);
        Expect.due("the class is final", true, Modifier.isFinal(BranchRelaxer.class.getModifiers()));
        for (Field f : BranchRelaxer.class.getDeclaredFields()) {
            Expect.due(f.getName() + " is private", true, Modifier.isPrivate(f.getModifiers()));
        }
        Constructor<?>[] constructors = BranchRelaxer.class.getDeclaredConstructors();
        Expect.due("constructors", 1, constructors.length);
        Expect.due("parameters of the constructor", 0, constructors[0].getParameterCount());
        noInnerMethodHasAName(seen);
        Expect.end();
    }

    private static void noInnerMethodHasAName(TreeSet<String> face) {
        TreeSet<String> names = new TreeSet<>();
        for (String signature : face) {
            names.add(signature.substring(signature.indexOf(' ') + 1, signature.indexOf('(')));
        }
        for (Method m : BranchRelaxer.class.getDeclaredMethods()) {
            if (Modifier.isPrivate(m.getModifiers())) {
                Expect.due("a private " + m.getName(), false, names.contains(m.getName()));
            }
        }
        for (Class<?> inner : BranchRelaxer.class.getDeclaredClasses()) {
            for (Method m : inner.getDeclaredMethods()) {
                Expect.due(inner.getName() + "." + m.getName(), false, names.contains(m.getName()));
            }
        }
    }
}
