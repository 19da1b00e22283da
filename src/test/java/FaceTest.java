import java.lang.reflect.Constructor;
import java.lang.reflect.Field;
import java.lang.reflect.Method;
import java.lang.reflect.Modifier;
import java.util.Arrays;
import java.util.TreeSet;

/** The public face is the document's and nothing more (LANGUAGE.md, rule 1). */
public final class FaceTest {
    private static final Checks CHECKS = new Checks();

    private static final String[] FACE = {
        "public void FlowGrid.cells(int) throws java.lang.IllegalArgumentException",
        "public void FlowGrid.choose(int,int,int,int) throws java.lang.IllegalArgumentException",
        "public void FlowGrid.put(int,double,double) throws java.lang.IllegalArgumentException",
        "public double FlowGrid.step(double) throws"
                + " java.lang.IllegalArgumentException,java.lang.IllegalStateException",
        "public int FlowGrid.run(double) throws"
                + " java.lang.IllegalArgumentException,java.lang.IllegalStateException",
        "public double FlowGrid.cell(int,int) throws java.util.NoSuchElementException",
        "public double FlowGrid.flux(int,boolean) throws java.util.NoSuchElementException",
        "public double FlowGrid.sum(boolean)",
        "public double FlowGrid.time()",
        "public int FlowGrid.count(int) throws java.util.NoSuchElementException",
    };

    public static void main(String[] args) {
        int modifiers = FlowGrid.class.getModifiers();
        CHECKS.holds("public and final", Modifier.isPublic(modifiers) && Modifier.isFinal(modifiers));
        methods();
        constructors();
        fields();
        nestedClasses();
        CHECKS.end();
    }

    private static void methods() {
        TreeSet<String> open = new TreeSet<>();
        TreeSet<String> openNames = new TreeSet<>();
        TreeSet<String> closedNames = new TreeSet<>();
        for (Method method : FlowGrid.class.getDeclaredMethods()) {
            if (Modifier.isPrivate(method.getModifiers())) {
                closedNames.add(method.getName());
            } else {
                open.add(method.toString());
                openNames.add(method.getName());
            }
        }
        CHECKS.same("the open methods", open.toString(), new TreeSet<>(Arrays.asList(FACE)).toString());
        closedNames.retainAll(openNames);
        CHECKS.same("private methods with a public name", closedNames.toString(), "[]");
    }

    private static void constructors() {
        Constructor<?>[] all = FlowGrid.class.getDeclaredConstructors();
        CHECKS.same("the constructors", Arrays.toString(all), "[public FlowGrid()]");
    }

    private static void fields() {
        for (Field field : FlowGrid.class.getDeclaredFields()) {
            int modifiers = field.getModifiers();
            CHECKS.holds(field + " private", Modifier.isPrivate(modifiers));
            CHECKS.holds(field + " final if static",
                    !Modifier.isStatic(modifiers) || Modifier.isFinal(modifiers));
        }
    }

    private static void nestedClasses() {
        for (Class<?> nested : FlowGrid.class.getDeclaredClasses()) {
            int modifiers = nested.getModifiers();
            CHECKS.holds(nested + " static and closed", Modifier.isStatic(modifiers)
                    && !Modifier.isPublic(modifiers) && !Modifier.isProtected(modifiers));
        }
    }
}
