import java.lang.reflect.Field;
import java.lang.reflect.Method;
import java.lang.reflect.Modifier;
import java.util.Set;
import java.util.TreeSet;

/** The face is the document's, and there is nothing of it beside. */
public final class FaceTest {
    private static final String[] METHODS = {
        "int append(int,long,long,long)", "int count(int)", "int cut(int)", "int data(int,int)",
        "int find(int,int)", "int inode(int,int)", "int isDown()", "int make(int,int,int)",
        "int plan(int)", "int put(int,int,int,long)", "int read(int,int,int)", "int record(int)",
        "int remove(int,int)", "int rename(int,int,int,int)", "int restart()", "int runs(int)",
        "int step()", "long asked()", "long digest()", "long tree()"};
    private static final String CONSTANT = "public static final int ";
    private static final String[] CONSTANTS = {
        CONSTANT + "BAD=-1", CONSTANT + "DOWN=-2", CONSTANT + "NONE=-3",
        CONSTANT + "TAKEN=-4", CONSTANT + "FULL=-5", CONSTANT + "NO=-6"};

    private FaceTest() {
    }

    public static void main(String[] args) throws IllegalAccessException {
        Check check = new Check();
        compare(check, "methods", methods(check), Set.of(METHODS));
        compare(check, "fields", fields(), Set.of(CONSTANTS));
        check.due("public final", BlockMover.class.getModifiers(), Modifier.PUBLIC | Modifier.FINAL);
        check.due("constructors", BlockMover.class.getDeclaredConstructors().length, 1);
        check.due("public constructors", BlockMover.class.getConstructors().length, 1);
        check.end();
    }

    private static Set<String> methods(Check check) {
        Set<String> found = new TreeSet<>();
        Set<String> names = new TreeSet<>();
        for (Method m : BlockMover.class.getDeclaredMethods()) {
            if (!Modifier.isPrivate(m.getModifiers())) {
                found.add(m.toString().replace("public ", "").replace("BlockMover.", ""));
                names.add(m.getName());
            }
        }
        for (Method m : BlockMover.class.getDeclaredMethods()) {
            if (Modifier.isPrivate(m.getModifiers())) {
                check.due("private method " + m.getName(), names.contains(m.getName()) ? 1 : 0, 0);
            }
        }
        return found;
    }

    private static Set<String> fields() throws IllegalAccessException {
        Set<String> found = new TreeSet<>();
        for (Field f : BlockMover.class.getDeclaredFields()) {
            if (!Modifier.isPrivate(f.getModifiers())) {
                Object value = Modifier.isStatic(f.getModifiers()) ? f.get(null) : "";
                found.add(f.toString().replace("BlockMover.", "") + "=" + value);
            }
        }
        return found;
    }

    private static void compare(Check check, String what, Set<String> got, Set<String> want) {
        check.due(what, got.size(), want.size());
        for (String one : want) {
            check.due(what + " has " + one, got.contains(one) ? 1 : 0, 1);
        }
    }
}
