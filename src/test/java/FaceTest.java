import java.lang.reflect.Constructor;
import java.lang.reflect.Field;
import java.lang.reflect.Method;
import java.lang.reflect.Modifier;
import java.util.ArrayList;
import java.util.Arrays;
import java.util.HashSet;
import java.util.List;
import java.util.Set;
import java.util.TreeSet;

/** The members of the class: those of the document's face, as it declares them, and no other that is not private. */
public final class FaceTest {
    private static final String FACE = String.join("\n",
        "int append(int,int,int,int,int)",
        "int truncateInput(int) throws IllegalArgumentException",
        "int runScript()",
        "int add(int,int) throws IllegalArgumentException,IllegalStateException",
        "int put(int,int) throws IllegalArgumentException,IllegalStateException",
        "int addRow(int,int,int) throws IllegalArgumentException,IllegalStateException",
        "int remove(int) throws NoSuchElementException",
        "int setNeighbourhood(int) throws IllegalArgumentException,IllegalStateException",
        "int setMultiplier(int) throws IllegalArgumentException,IllegalStateException",
        "boolean setPulling(boolean)",
        "int grow() throws IllegalStateException",
        "int clear()",
        "int undo()",
        "int undoCount()",
        "int saveSnapshot()",
        "int restoreSnapshot() throws NoSuchElementException",
        "int scriptErrorKind()",
        "int scriptErrorOffset()",
        "int bucketCount()",
        "int entryCount()",
        "int neighbourhood()",
        "int multiplier()",
        "boolean isPulling()",
        "int keyAt(int) throws IndexOutOfBoundsException",
        "int valueAt(int) throws IndexOutOfBoundsException",
        "int hopBits(int) throws IndexOutOfBoundsException",
        "int entriesOf(int) throws IndexOutOfBoundsException",
        "int freeDistance(int) throws IndexOutOfBoundsException",
        "int longestRun()",
        "int fullestHome()",
        "int homeOf(int) throws IllegalArgumentException",
        "int bucketOf(int) throws IllegalArgumentException",
        "int valueOf(int) throws IllegalArgumentException",
        "int distanceOf(int) throws IllegalArgumentException",
        "int looksFor(int) throws IllegalArgumentException",
        "int longestDistance()",
        "int sumOfDistances()",
        "int rank(int) throws IllegalArgumentException",
        "int whyNoAdd(int) throws IllegalArgumentException",
        "int placeFor(int) throws IllegalArgumentException",
        "int movesFor(int) throws IllegalArgumentException",
        "int bucketsAfter(int) throws IllegalArgumentException",
        "int pullsFor(int) throws IllegalArgumentException",
        "int bucketsWith(int) throws IllegalArgumentException",
        "int bestMultiplier(int) throws IllegalArgumentException",
        "int moves()",
        "int pulls()",
        "int growths()",
        "int addedCount()",
        "int removedCount()",
        "double meanDistance()",
        "float load()",
        "int violations()",
        "int writeTable()",
        "int reportByte(int)",
        "int NONE = -1",
        "int ALLOWED = 0",
        "int PRESENT = 1",
        "int NO_PLACE = 2",
        "NeighbourHash()");

    private static String names(Class<?>[] types) {
        List<String> names = new ArrayList<>();
        for (Class<?> type : types) {
            names.add(type.getSimpleName());
        }
        return String.join(",", names);
    }

    private static String shown(Method m) {
        String thrown = names(m.getExceptionTypes());
        return m.getReturnType().getSimpleName() + " " + m.getName() + "(" + names(m.getParameterTypes()) + ")"
            + (thrown.isEmpty() ? "" : " throws " + thrown);
    }

    private static Set<String> found() throws IllegalAccessException {
        Set<String> found = new TreeSet<>();
        for (Method m : NeighbourHash.class.getDeclaredMethods()) {
            if (!Modifier.isPrivate(m.getModifiers()) && !m.isSynthetic()) {
                found.add((Modifier.isPublic(m.getModifiers()) ? "" : "hidden ") + shown(m));
            }
        }
        for (Field f : NeighbourHash.class.getDeclaredFields()) {
            if (!Modifier.isPrivate(f.getModifiers()) && !f.isSynthetic()) {
                boolean constant = f.getModifiers() == (Modifier.PUBLIC | Modifier.STATIC | Modifier.FINAL);
                found.add(f.getType().getSimpleName() + " " + f.getName() + " = " + (constant ? f.get(null) : "no constant"));
            }
        }
        for (Constructor<?> c : NeighbourHash.class.getDeclaredConstructors()) {
            found.add((Modifier.isPublic(c.getModifiers()) ? "" : "hidden ") + c.getName() + "(" + names(c.getParameterTypes()) + ")");
        }
        return found;
    }

    /** Rule 1 of LANGUAGE.md. */
    private static Set<String> doubledNames() {
        Set<String> open = new HashSet<>();
        for (Method m : NeighbourHash.class.getMethods()) {
            open.add(m.getName());
        }
        Set<String> doubled = new TreeSet<>();
        List<Class<?>> classes = new ArrayList<>(List.of(NeighbourHash.class));
        classes.addAll(Arrays.asList(NeighbourHash.class.getDeclaredClasses()));
        for (Class<?> c : classes) {
            for (Method m : c.getDeclaredMethods()) {
                boolean madeByJava = c.isEnum() && m.getName().equals("valueOf") || m.isSynthetic();
                if (!Modifier.isPublic(m.getModifiers()) && !madeByJava && open.contains(m.getName())) {
                    doubled.add(c.getSimpleName() + "." + m.getName());
                }
            }
        }
        return doubled;
    }

    public static void main(String[] args) throws IllegalAccessException {
        int wrong = 0;
        Set<String> due = new TreeSet<>(Arrays.asList(FACE.split("\n")));
        Set<String> found = found();
        for (String member : due) {
            if (!found.contains(member)) {
                wrong++;
                System.out.println("missing: " + member);
            }
        }
        for (String member : found) {
            if (!due.contains(member)) {
                wrong++;
                System.out.println("not in the face: " + member);
            }
        }
        for (String name : doubledNames()) {
            wrong++;
            System.out.println("bears the name of a public method: " + name);
        }
        int modifiers = NeighbourHash.class.getModifiers();
        if (!Modifier.isPublic(modifiers) || !Modifier.isFinal(modifiers)) {
            wrong++;
            System.out.println("the class is not public and final");
        }
        System.out.println(wrong == 0 ? "all members are as due" : wrong + " members are not as due");
        if (wrong != 0) {
            System.exit(1);
        }
    }
}
