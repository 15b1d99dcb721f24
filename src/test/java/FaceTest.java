import java.lang.reflect.Constructor;
import java.lang.reflect.Field;
import java.lang.reflect.Method;
import java.lang.reflect.Modifier;
import java.util.Arrays;
import java.util.TreeSet;

/** The public face: just the document's members, and its constants. */
public final class FaceTest {
    private static final String[] METHODS = {
        "boolean activate()", "boolean foreign(int, boolean)", "boolean put(int, int)", "boolean remove(int)",
        "int attest(int, int)", "int entry(int, int, int, int, int)", "int fetch(int, int)", "int friends()",
        "int id()", "int key(int)", "int poll(int)", "int prepare()", "int svid(int, int)", "int sync(int)",
        "int tick(int)", "int verify()", "int watch(int, int)", "int written(int, int)"};

    public static void main(String[] args) {
        Due due = new Due();
        due.is("final", Modifier.isFinal(IdentityIssuer.class.getModifiers()), true);
        TreeSet<String> methods = new TreeSet<>();
        for (Method m : IdentityIssuer.class.getDeclaredMethods()) {
            if (!Modifier.isPrivate(m.getModifiers()) && !m.isSynthetic()) {
                due.is("public " + m.getName(), Modifier.isPublic(m.getModifiers()), true);
                String types = Arrays.toString(m.getParameterTypes());
                methods.add(m.getReturnType() + " " + m.getName() + "(" + types.substring(1, types.length() - 1) + ")");
            }
        }
        due.text("methods", methods.toString(), new TreeSet<>(Arrays.asList(METHODS)).toString());
        TreeSet<String> fields = new TreeSet<>();
        for (Field f : IdentityIssuer.class.getDeclaredFields()) {
            if (!Modifier.isPrivate(f.getModifiers())) {
                fields.add(f.toString().replaceAll("IdentityIssuer\\.", ""));
            }
        }
        due.is("constants", fields.size(), 7);
        for (String field : fields) {
            due.is(field, field.startsWith("public static final int "), true);
        }
        Constructor<?>[] constructors = IdentityIssuer.class.getConstructors();
        due.is("constructors", constructors.length, 1);
        due.is("MISSING", IdentityIssuer.MISSING, -1001);
        due.is("WRONG", IdentityIssuer.WRONG, -1002);
        due.is("FULL", IdentityIssuer.FULL, -1003);
        due.is("DENIED", IdentityIssuer.DENIED, -1004);
        due.is("EXPIRED", IdentityIssuer.EXPIRED, -1005);
        due.is("UNKNOWN", IdentityIssuer.UNKNOWN, -1006);
        due.is("FORGED", IdentityIssuer.FORGED, -1007);
        due.end();
    }
}
