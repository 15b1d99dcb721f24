import java.io.IOException;
import java.lang.reflect.Constructor;
import java.lang.reflect.Field;
import java.lang.reflect.Method;
import java.lang.reflect.Modifier;
import java.util.List;
import java.util.Set;
import java.util.TreeSet;

/** The public face: just the members that stand in the document, by their declarations. */
public final class FaceTest {
    /** As it stands in the document. */
    static final List<String> DECLARED = """
        public final class IdentityIssuer {
            public static final int MISSING = -1001;
            public static final int WRONG = -1002;
            public static final int FULL = -1003;
            public static final int DENIED = -1004;
            public static final int EXPIRED = -1005;
            public static final int UNKNOWN = -1006;
            public static final int FORGED = -1007;
            public IdentityIssuer(int life);
            public boolean put(int word, int n);
            public int id();
            public int entry(int id, int parent, int selectors, int ttl, int friends);
            public boolean remove(int e);
            public boolean foreign(int k, boolean there);
            public int attest(int id, int selectors);
            public int sync(int a);
            public int fetch(int a, int selectors);
            public int watch(int a, int selectors);
            public int poll(int w);
            public int svid(int k, int what);
            public int key(int k);
            public int friends();
            public int written(int k, int p);
            public int verify();
            public int prepare();
            public boolean activate();
            public int tick(int n);
        }
        """.lines().toList();
    private static final Class<?> FACE = IdentityIssuer.class;

    private final Due due = new Due();

    public static void main(String[] args) throws ReflectiveOperationException, IOException {
        FaceTest test = new FaceTest();
        test.document();
        test.declarations();
        test.family();
        test.constants();
        test.classesInside();
        test.privateNames();
        test.due.end();
    }

    private void document() throws IOException {
        Pages.document().ifPresent(document ->
            due.text("the document's face", document.blocks("The public face", "java").toString(), List.of(DECLARED).toString()));
    }

    private void declarations() throws ReflectiveOperationException {
        Set<String> promised = new TreeSet<>();
        for (String line : DECLARED) {
            if (line.contains("public")) {
                promised.add(withoutNames(line.replaceAll("[;{]", "").trim()));
            }
        }
        due.text("the face", visible().toString(), promised.toString());
    }

    private void family() {
        due.text("what it extends", FACE.getSuperclass().getName(), "java.lang.Object");
        due.is("what it implements", FACE.getInterfaces().length, 0);
    }

    /** Of each parameter only the type: a compiled class does not tell its name. */
    private static String withoutNames(String declaration) {
        return declaration.replaceAll("(int|boolean) \\w+(?=[,)])", "$1").replace(", ", ",");
    }

    private static Set<String> visible() throws ReflectiveOperationException {
        Set<String> visible = new TreeSet<>();
        visible.add(Modifier.toString(FACE.getModifiers()) + " class " + FACE.getName());
        for (Constructor<?> c : FACE.getDeclaredConstructors()) {
            if (isVisible(c.getModifiers())) {
                visible.add(c.toString());
            }
        }
        for (Method m : FACE.getDeclaredMethods()) {
            if (isVisible(m.getModifiers())) {
                visible.add(m.toString().replace("IdentityIssuer.", ""));
            }
        }
        for (Field f : FACE.getDeclaredFields()) {
            if (isVisible(f.getModifiers())) {
                String value = Modifier.isStatic(f.getModifiers()) ? " = " + f.get(null) : "";
                visible.add(f.toString().replace("IdentityIssuer.", "") + value);
            }
        }
        return visible;
    }

    private static boolean isVisible(int modifiers) {
        return !Modifier.isPrivate(modifiers);
    }

    private void constants() {
        due.is("MISSING", IdentityIssuer.MISSING, -1001);
        due.is("WRONG", IdentityIssuer.WRONG, -1002);
        due.is("FULL", IdentityIssuer.FULL, -1003);
        due.is("DENIED", IdentityIssuer.DENIED, -1004);
        due.is("EXPIRED", IdentityIssuer.EXPIRED, -1005);
        due.is("UNKNOWN", IdentityIssuer.UNKNOWN, -1006);
        due.is("FORGED", IdentityIssuer.FORGED, -1007);
    }

    private void classesInside() {
        for (Class<?> inside : FACE.getDeclaredClasses()) {
            int modifiers = inside.getModifiers();
            due.is(inside + " is static", Modifier.isStatic(modifiers), true);
            due.is(inside + " can be seen from outside", Modifier.isPublic(modifiers) || Modifier.isProtected(modifiers), false);
        }
    }

    private void privateNames() {
        Set<String> names = new TreeSet<>();
        for (Method m : FACE.getMethods()) {
            names.add(m.getName());
        }
        for (Method m : FACE.getDeclaredMethods()) {
            if (!isVisible(m.getModifiers())) {
                due.is("private " + m.getName() + " has the name of a public one", names.contains(m.getName()), false);
            }
        }
    }
}
