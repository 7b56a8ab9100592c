import java.lang.reflect.Constructor;
import java.lang.reflect.Field;
import java.lang.reflect.Method;
import java.lang.reflect.Modifier;
import java.util.ArrayList;
import java.util.Arrays;
import java.util.Collections;
import java.util.List;

/** The class shows the document's face and nothing else. */
public final class PacketStoresFace {
    private static final String INDEX = "IndexOutOfBoundsException";
    private static final String ARGUMENT = "IllegalArgumentException";
    private static int wrong = 0;

    private static void due(String what, Object got, Object want) {
        if (!got.equals(want)) {
            wrong++;
            System.out.println(what + " is " + got + ", due is " + want);
        }
    }

    private static String line(Method m) {
        StringBuilder s = new StringBuilder();
        s.append(m.getReturnType().getSimpleName()).append(' ').append(m.getName());
        for (Class<?> c : m.getParameterTypes()) {
            s.append(' ').append(c.getSimpleName());
        }
        for (Class<?> c : m.getExceptionTypes()) {
            s.append(' ').append(c.getSimpleName());
        }
        return s.toString();
    }

    private static List<String> wanted() {
        String both = " " + INDEX + " " + ARGUMENT;
        List<String> want = new ArrayList<>(Arrays.asList(
            "void place int int int" + both,
            "void rate int int int" + both,
            "void accept int int" + both,
            "void make int int int" + both,
            "void wagon int int int" + both,
            "int pass int " + ARGUMENT,
            "int load int int int" + both,
            "int unload int int int" + both,
            "void pour int int" + both,
            "void part int int int" + both,
            "int dump int " + INDEX,
            "boolean spend int",
            "int packet int int int int",
            "int units int int",
            "int count int int",
            "int sum int"));
        Collections.sort(want);
        return want;
    }

    private static void methods() {
        List<String> shown = new ArrayList<>();
        List<String> names = new ArrayList<>();
        for (Method m : PacketStores.class.getDeclaredMethods()) {
            if (!Modifier.isPrivate(m.getModifiers()) && !m.isSynthetic()) {
                due("modifiers of " + m.getName(), m.getModifiers(), Modifier.PUBLIC);
                shown.add(line(m));
                names.add(m.getName());
            }
        }
        Collections.sort(shown);
        due("the list of methods", shown, wanted());
        for (Class<?> c : PacketStores.class.getDeclaredClasses()) {
            due(c + " is static", Modifier.isStatic(c.getModifiers()), true);
            for (Method m : c.getDeclaredMethods()) {
                due(m + " bears a name of the face", names.contains(m.getName()), false);
            }
        }
        for (Method m : PacketStores.class.getDeclaredMethods()) {
            boolean hidden = Modifier.isPrivate(m.getModifiers());
            due(m + " bears a name of the face", hidden && names.contains(m.getName()), false);
        }
    }

    private static void fields() {
        for (Field f : PacketStores.class.getDeclaredFields()) {
            int constant = Modifier.PUBLIC | Modifier.STATIC | Modifier.FINAL;
            if (f.getName().equals("NONE")) {
                due("modifiers of NONE", f.getModifiers(), constant);
                due("type of NONE", f.getType().getSimpleName(), "int");
            } else {
                due(f + " is private", Modifier.isPrivate(f.getModifiers()), true);
                due(f + " is static and not final",
                    Modifier.isStatic(f.getModifiers()) && !Modifier.isFinal(f.getModifiers()), false);
            }
        }
    }

    private static void constructors() {
        Constructor<?>[] all = PacketStores.class.getDeclaredConstructors();
        due("constructors", all.length, 1);
        due("modifiers of the constructor", all[0].getModifiers(), Modifier.PUBLIC);
        due("its parameters", all[0].getParameterCount(), 0);
        due("modifiers of the class", PacketStores.class.getModifiers(), Modifier.PUBLIC | Modifier.FINAL);
        due("the package", PacketStores.class.getPackageName(), "");
    }

    public static void main(String[] args) {
        methods();
        fields();
        constructors();
        System.out.println(wrong == 0 ? "the face is as due" : wrong + " things are not as due");
        if (wrong != 0) {
            System.exit(1);
        }
    }
}
