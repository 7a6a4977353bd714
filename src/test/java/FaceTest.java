import java.lang.reflect.Constructor;
import java.lang.reflect.Field;
import java.lang.reflect.Method;
import java.lang.reflect.Modifier;
import java.util.Arrays;
import java.util.Set;
import java.util.TreeSet;

/** The public face is the document's, whole and nothing beside it; and the bounds of LANGUAGE.md's rules 1, 5 and 11. */
final class FaceTest {
    private static final String IOOBE = "IndexOutOfBoundsException";
    private static final String IAE = "IllegalArgumentException";
    private static final String ISE = "IllegalStateException";

    private static final String[] FACE = {
        "int setWeight(int,int) " + IOOBE + " " + IAE,
        "int setFriction(int) " + IAE,
        "int setLength(int) " + IAE + " " + ISE,
        "int addPulley(int) " + IOOBE + " " + ISE,
        "int takePulley() " + ISE,
        "int setEnd(int) " + IOOBE + " " + ISE,
        "int haul(int,int) " + IAE,
        "int letOut(int,int) " + IAE,
        "int block(int,int) " + IOOBE + " " + IAE,
        "int pulley(int) " + IOOBE,
        "long force(int,int,boolean) " + IAE,
        "long pull(int,int,boolean) " + IOOBE + " " + IAE,
        "int value(int) " + IAE,
        "long work(boolean)",
        "int entry(int,int) " + IOOBE + " " + IAE,
        "int first()",
        "int forceForAll()",
        "int pulleysFor(int,int) " + IOOBE + " " + IAE,
        "int bestEnd(int) " + IOOBE,
        "int swapped(int,int,int) " + IOOBE,
        "int riseBy(int,int,int) " + IOOBE + " " + IAE,
        "double efficiency()",
        "int append(int) " + IAE + " " + ISE,
        "int clearText()",
        "int parse()",
        "int undo() " + ISE,
        "long digest()",
    };

    private static final Check check = new Check();

    public static void main(String[] args) {
        face();
        inside();
        check.end();
    }

    private static void face() {
        Class<?> tackle = RopeTackle.class;
        check.same("the modifiers of the class", tackle.getModifiers(), Modifier.PUBLIC | Modifier.FINAL);
        check.same("NONE", RopeTackle.NONE, -1);
        check.same("BEAM", RopeTackle.BEAM, 4);
        Set<String> open = new TreeSet<>();
        for (Method method : tackle.getDeclaredMethods()) {
            if (!Modifier.isPrivate(method.getModifiers())) {
                check.holds(method + " is public and no more", method.getModifiers() == Modifier.PUBLIC);
                open.add(told(method));
            }
        }
        Set<String> due = new TreeSet<>(Arrays.asList(FACE));
        check.holds("the public methods are the document's: " + open, open.equals(due));
        int constants = 0;
        for (Field field : tackle.getDeclaredFields()) {
            if (!Modifier.isPrivate(field.getModifiers())) {
                constants++;
                check.holds(field + " is a constant of the face", field.getName().equals("NONE") || field.getName().equals("BEAM"));
                check.same(field + "", field.getModifiers(), Modifier.PUBLIC | Modifier.STATIC | Modifier.FINAL);
            }
        }
        check.same("the constants", constants, 2);
        Constructor<?>[] made = tackle.getDeclaredConstructors();
        check.same("the constructors", made.length, 1);
        check.same("the constructor's parameters", made[0].getParameterCount(), 0);
        check.same("the constructor's modifiers", made[0].getModifiers(), Modifier.PUBLIC);
    }

    private static void inside() {
        Set<String> open = new TreeSet<>();
        for (Method method : RopeTackle.class.getMethods()) {
            if (method.getDeclaringClass() == RopeTackle.class) {
                open.add(method.getName());
            }
        }
        check.holds("few classes", RopeTackle.class.getDeclaredClasses().length < 12);
        look(RopeTackle.class, open);
        for (Class<?> one : RopeTackle.class.getDeclaredClasses()) {
            check.holds(one + " is static and not public",
                Modifier.isStatic(one.getModifiers()) && !Modifier.isPublic(one.getModifiers()));
            look(one, open);
        }
    }

    private static void look(Class<?> one, Set<String> open) {
        int fields = 0;
        for (Field field : one.getDeclaredFields()) {
            boolean isStatic = Modifier.isStatic(field.getModifiers());
            check.holds(field + " is no static state", !isStatic || Modifier.isFinal(field.getModifiers()));
            fields += isStatic ? 0 : 1;
        }
        check.holds(one + " has few fields", fields <= 20);
        for (Method method : one.getDeclaredMethods()) {
            check.holds(method + " has few parameters", method.getParameterCount() <= 7);
            check.holds(method + " has a name of its own",
                Modifier.isPublic(method.getModifiers()) || !open.contains(method.getName()));
        }
    }

    private static String told(Method method) {
        StringBuilder text = new StringBuilder(method.getReturnType() + " " + method.getName() + "(");
        Class<?>[] parameters = method.getParameterTypes();
        for (int i = 0; i < parameters.length; i++) {
            text.append(i == 0 ? "" : ",").append(parameters[i]);
        }
        text.append(")");
        for (Class<?> thrown : method.getExceptionTypes()) {
            text.append(" ").append(thrown.getSimpleName());
        }
        return text.toString();
    }
}
