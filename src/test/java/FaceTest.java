import java.io.IOException;
import java.lang.reflect.Constructor;
import java.lang.reflect.Field;
import java.lang.reflect.Method;
import java.lang.reflect.Modifier;
import java.util.Set;
import java.util.TreeSet;

/** The public face: just the members that stand in the document, by their declarations. */
public final class FaceTest {
    private static final Class<?> FACE = IdentityIssuer.class;

    private final Due due = new Due();

    public static void main(String[] args) throws ReflectiveOperationException, IOException {
        FaceTest test = new FaceTest();
        test.declarations();
        test.constants();
        test.classesInside();
        test.privateNames();
        test.due.end();
    }

    private void declarations() throws ReflectiveOperationException, IOException {
        Set<String> promised = new TreeSet<>();
        for (String line : new Pages(Pages.DOCUMENT).blocks("The public face", "java").get(0)) {
            if (line.contains("public")) {
                promised.add(withoutNames(line.replaceAll("[;{]", "").trim()));
            }
        }
        due.is("declarations in the document: the class, 7 constants, 1 constructor and 18 methods", promised.size(), 27);
        due.text("the face", visible().toString(), promised.toString());
        due.text("what it extends", FACE.getSuperclass().getName(), "java.lang.Object");
        due.is("what it implements", FACE.getInterfaces().length, 0);
    }

    /** Of each parameter only the type: a compiled class does not tell its name. */
    private static String withoutNames(String declaration) {
        return declaration.replaceAll("(int|boolean) \\w+(?=[,)])", "$1").replace(", ", ",");
    }

    private static Set<String> visible() throws ReflectiveOperationException {
        Set<String> visible = new TreeSet<>();
        visible.add(Modifier.toString(FACE.getModifiers()) + " class " + FACE.getName());
        for (Constructor<?> c : FACE.getDeclaredConstructors()) {
            if (isVisible(c.getModifiers())) {
                visible.add(c.toString());
            }
        }
        for (Method m : FACE.getDeclaredMethods()) {
            if (isVisible(m.getModifiers())) {
                visible.add(m.toString().replace("IdentityIssuer.", ""));
            }
        }
        for (Field f : FACE.getDeclaredFields()) {
            if (isVisible(f.getModifiers())) {
                visible.add(f.toString().replace("IdentityIssuer.", "") + " = " + f.get(null));
            }
        }
        return visible;
    }

    private static boolean isVisible(int modifiers) {
        return !Modifier.isPrivate(modifiers);
    }

    private void constants() {
        due.is("MISSING", IdentityIssuer.MISSING, -1001);
        due.is("WRONG", IdentityIssuer.WRONG, -1002);
        due.is("FULL", IdentityIssuer.FULL, -1003);
        due.is("DENIED", IdentityIssuer.DENIED, -1004);
        due.is("EXPIRED", IdentityIssuer.EXPIRED, -1005);
        due.is("UNKNOWN", IdentityIssuer.UNKNOWN, -1006);
        due.is("FORGED", IdentityIssuer.FORGED, -1007);
    }

    private void classesInside() {
        for (Class<?> inside : FACE.getDeclaredClasses()) {
            int modifiers = inside.getModifiers();
            due.is(inside + " is static", Modifier.isStatic(modifiers), true);
            due.is(inside + " can be seen from outside", Modifier.isPublic(modifiers) || Modifier.isProtected(modifiers), false);
        }
    }

    private void privateNames() {
        Set<String> names = new TreeSet<>();
        for (Method m : FACE.getMethods()) {
            names.add(m.getName());
        }
        for (Method m : FACE.getDeclaredMethods()) {
            if (!isVisible(m.getModifiers())) {
                due.is("private " + m.getName() + " has the name of a public one", names.contains(m.getName()), false);
            }
        }
    }
}
