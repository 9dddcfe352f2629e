import java.lang.reflect.Constructor;
import java.lang.reflect.Executable;
import java.lang.reflect.Field;
import java.lang.reflect.Member;
import java.lang.reflect.Method;
import java.lang.reflect.Modifier;
import java.util.ArrayList;
import java.util.List;
import java.util.Set;
import java.util.TreeSet;

/** "The public face": the class has it whole, nothing beside it, and rules 1, 5 and 11 of the language. */
public final class FaceTest {
    private static final String[] METHODS = {
        "long encode(boolean, int)",
        "int decode(long)",
        "boolean live(int, boolean)",
        "boolean draft(int, int, int, int)",
        "boolean publish(int, int)",
        "int received(int, int, int)",
        "int terminal(int, int)",
        "int message(int, int, int, int, int, int)",
        "boolean give(int, int, int)",
        "int taken(int, int)",
        "int seal(int)",
        "boolean open()",
        "int load(int)",
        "boolean fault(int, int, int)",
        "int run()",
        "int outcome(int)",
        "int bus()",
        "int words()",
        "int heard(int)",
    };
    private static final String[] CONSTANTS = {"BAD", "FULL", "SYNC", "HALVES", "PARITY", "SEALED"};
    private static final int MOST_CLASSES = 12;
    private static final int MOST_FIELDS = 20;
    private static final int MOST_PARAMETERS = 7;
    private static final Due due = new Due();

    public static void main(String[] args) {
        theClass();
        constructors();
        methods();
        constants();
        classesInside();
        namesOfPrivateMethods();
        fields();
        parameters();
        due.end();
    }

    private static void theClass() {
        due.is("modifiers of the class", CommandBuses.class.getModifiers(), Modifier.PUBLIC | Modifier.FINAL);
        due.yes("no package", CommandBuses.class.getPackageName().isEmpty());
        due.yes("no class above", CommandBuses.class.getSuperclass() == Object.class);
        due.is("interfaces", CommandBuses.class.getInterfaces().length, 0);
    }

    private static void constructors() {
        Constructor<?>[] all = CommandBuses.class.getDeclaredConstructors();
        due.is("constructors", all.length, 1);
        due.is("modifiers of the constructor", all[0].getModifiers(), Modifier.PUBLIC);
        due.is("parameters of the constructor", all[0].getParameterCount(), 0);
        due.is("exceptions of the constructor", all[0].getExceptionTypes().length, 0);
    }

    private static void methods() {
        Set<String> found = new TreeSet<>();
        for (Method m : CommandBuses.class.getDeclaredMethods()) {
            if (isSeen(m)) {
                found.add(signatureOf(m));
                due.is("modifiers of " + m.getName(), m.getModifiers(), Modifier.PUBLIC);
                due.is("exceptions of " + m.getName(), m.getExceptionTypes().length, 0);
            }
        }
        areTheSame("method", found, METHODS);
    }

    private static void constants() {
        Set<String> found = new TreeSet<>();
        for (Field f : CommandBuses.class.getDeclaredFields()) {
            if (isSeen(f)) {
                found.add(f.getName());
                due.is("modifiers of " + f.getName(), f.getModifiers(),
                    Modifier.PUBLIC | Modifier.STATIC | Modifier.FINAL);
                due.yes(f.getName() + " is an int", f.getType() == int.class);
            }
        }
        areTheSame("constant", found, CONSTANTS);
    }

    private static void classesInside() {
        due.yes("not too many classes", allClasses().size() <= MOST_CLASSES);
        for (Class<?> inside : CommandBuses.class.getDeclaredClasses()) {
            int modifiers = inside.getModifiers();
            due.yes(inside + " is static", Modifier.isStatic(modifiers));
            due.no(inside + " is public", Modifier.isPublic(modifiers));
            due.no(inside + " is protected", Modifier.isProtected(modifiers));
        }
    }

    private static void namesOfPrivateMethods() {
        Set<String> face = new TreeSet<>();
        for (Method m : CommandBuses.class.getMethods()) {
            face.add(m.getName());
        }
        for (Class<?> one : allClasses()) {
            for (Method m : one.getDeclaredMethods()) {
                if (Modifier.isPrivate(m.getModifiers())) {
                    due.no("a private method has the public name " + m.getName(), face.contains(m.getName()));
                }
            }
        }
    }

    private static void fields() {
        for (Class<?> one : allClasses()) {
            int own = 0;
            for (Field f : one.getDeclaredFields()) {
                if (Modifier.isStatic(f.getModifiers())) {
                    due.yes("static " + f.getName() + " is final", Modifier.isFinal(f.getModifiers()));
                } else {
                    own++;
                }
            }
            due.yes("not too many fields in " + one, own <= MOST_FIELDS);
        }
    }

    private static void parameters() {
        for (Class<?> one : allClasses()) {
            List<Executable> all = new ArrayList<>(List.of(one.getDeclaredMethods()));
            all.addAll(List.of(one.getDeclaredConstructors()));
            for (Executable e : all) {
                due.yes("not too many parameters in " + e, e.getParameterCount() <= MOST_PARAMETERS);
            }
        }
    }

    private static List<Class<?>> allClasses() {
        List<Class<?>> all = new ArrayList<>(List.of(CommandBuses.class.getDeclaredClasses()));
        all.add(CommandBuses.class);
        return all;
    }

    private static boolean isSeen(Member member) {
        return !Modifier.isPrivate(member.getModifiers()) && !member.isSynthetic();
    }

    private static String signatureOf(Method m) {
        List<String> types = new ArrayList<>();
        for (Class<?> type : m.getParameterTypes()) {
            types.add(type.getName());
        }
        return m.getReturnType().getName() + " " + m.getName() + "(" + String.join(", ", types) + ")";
    }

    private static void areTheSame(String what, Set<String> found, String[] wanted) {
        for (String name : wanted) {
            due.yes(what + " of the document: " + name, found.remove(name));
        }
        for (String name : found) {
            due.no(what + " that the document does not have: " + name, true);
        }
    }
}
