import java.lang.reflect.Constructor;
import java.lang.reflect.Field;
import java.lang.reflect.Method;
import java.lang.reflect.Modifier;
import java.util.Arrays;
import java.util.TreeSet;

/** The public face: the document's constants, constructor and methods, and nothing else to be seen. */
public final class FaceTest {
    private static final String[] CONSTANTS = {
        "ARMED=-1", "FEW=-2", "CROOKED=-3", "NEAR=-4", "BAD=-5", "NOUPLOAD=-6", "NOFENCE=-7",
        "NOPLACE=-8", "GROUNDED=-9", "REFUSED=-10", "EMPTY=-11", "DONE=100"};
    private static final String[] METHODS = {
        "boolean corner(int, int)", "void erase()", "int fence(int)", "int upload(int)",
        "int item(int, int, int, int)", "int wanted()", "boolean sample(int, int, int, int)",
        "void beat()", "int arm()", "int command(int)", "int tick(int)", "int mode()",
        "int demand(int)", "int position(int)", "int lost()", "int waypoint()",
        "boolean safe(int, int)", "int change(int)"};

    public static void main(String[] args) throws Exception {
        Checks checks = new Checks();
        checks.yes("the constants " + constants(), constants().equals(new TreeSet<>(Arrays.asList(CONSTANTS))));
        checks.yes("the methods " + methods(), methods().equals(new TreeSet<>(Arrays.asList(METHODS))));
        Constructor<?>[] made = FencePilot.class.getDeclaredConstructors();
        checks.same("the number of constructors", made.length, 1);
        checks.same("the constructor's parameters", made[0].getParameterCount(), 0);
        checks.yes("the constructor is public", Modifier.isPublic(made[0].getModifiers()));
        checks.yes("the class is final", Modifier.isFinal(FencePilot.class.getModifiers()));
        checks.yes("the class is public", Modifier.isPublic(FencePilot.class.getModifiers()));
        privateNames(checks);
        checks.finish();
    }

    private static TreeSet<String> constants() throws Exception {
        TreeSet<String> found = new TreeSet<>();
        for (Field field : FencePilot.class.getDeclaredFields()) {
            if (!Modifier.isPrivate(field.getModifiers())) {
                boolean constant = Modifier.toString(field.getModifiers()).equals("public static final");
                found.add(constant ? field.getName() + "=" + field.get(null) : field.toString());
            }
        }
        return found;
    }

    private static TreeSet<String> methods() {
        TreeSet<String> found = new TreeSet<>();
        for (Method method : FencePilot.class.getDeclaredMethods()) {
            if (!Modifier.isPrivate(method.getModifiers())) {
                String types = Arrays.toString(method.getParameterTypes());
                String kept = types.substring(1, types.length() - 1);
                boolean plain = Modifier.toString(method.getModifiers()).equals("public");
                found.add((plain ? "" : method.getModifiers() + " ")
                    + method.getReturnType() + " " + method.getName() + "(" + kept + ")");
            }
        }
        return found;
    }

    private static void privateNames(Checks checks) {
        for (Method method : FencePilot.class.getDeclaredMethods()) {
            if (Modifier.isPrivate(method.getModifiers())) {
                for (String face : METHODS) {
                    checks.no("a private method named as " + face, face.contains(" " + method.getName() + "("));
                }
            }
        }
    }
}
