import java.lang.reflect.Constructor;
import java.lang.reflect.Field;
import java.lang.reflect.Method;
import java.lang.reflect.Modifier;
import java.util.TreeSet;

/** The public face, which has every member of the document and no other. */
public final class FaceTest {
    private static final Bench BENCH = new Bench("FaceTest");
    private static final String[] METHODS = {
        "int hear(int)", "int quiet(int)", "int sent(int)", "boolean ask(int,int,int,int,int)", "int replied()",
        "int reply(int)", "int state()", "int silence()", "boolean set(int,int,int,boolean)", "int present(int)",
    };

    public static void main(String[] args) {
        BENCH.due("public and final", PassedToken.class.getModifiers(), Modifier.PUBLIC | Modifier.FINAL);
        methods();
        fields();
        for (Constructor<?> c : PassedToken.class.getDeclaredConstructors()) {
            BENCH.due("constructor " + c, c.toString().equals("public PassedToken(int,int)"), true);
        }
        for (Class<?> inside : PassedToken.class.getDeclaredClasses()) {
            BENCH.due(inside + " is static", Modifier.isStatic(inside.getModifiers()), true);
            BENCH.due(inside + " is not public", Modifier.isPublic(inside.getModifiers()), false);
        }
        BENCH.end();
    }

    private static void methods() {
        TreeSet<String> names = new TreeSet<>();
        TreeSet<String> want = new TreeSet<>();
        for (String method : METHODS) {
            want.add("public " + method.replace(" ", " PassedToken."));
        }
        int found = 0;
        for (Method m : PassedToken.class.getDeclaredMethods()) {
            if (want.contains(m.toString())) {
                found++;
                names.add(m.getName());
            } else {
                BENCH.due(m + " is private", Modifier.isPrivate(m.getModifiers()), true);
            }
        }
        BENCH.due("methods of the face", found, METHODS.length);
        for (Method m : PassedToken.class.getDeclaredMethods()) {
            if (Modifier.isPrivate(m.getModifiers())) {
                BENCH.due(m + " bears a public name", names.contains(m.getName()), false);
            }
        }
    }

    private static void fields() {
        for (Field f : PassedToken.class.getDeclaredFields()) {
            boolean isBad = f.toString().equals("public static final int PassedToken.BAD");
            BENCH.due(f + " is private", Modifier.isPrivate(f.getModifiers()), !isBad);
        }
    }
}
