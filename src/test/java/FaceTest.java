import java.lang.reflect.Constructor;
import java.lang.reflect.Executable;
import java.lang.reflect.Field;
import java.lang.reflect.Method;
import java.lang.reflect.Modifier;
import java.util.ArrayList;
import java.util.Collections;
import java.util.List;
import java.util.Set;
import java.util.TreeSet;

/** The public face of the document, and the rules 1 and 5 of LANGUAGE.md on members. */
public final class FaceTest {
    private static final Check CHECK = new Check("FaceTest");
    private static final String IAE = " throws IllegalArgumentException";
    private static final String BOTH = IAE + ",IllegalStateException";
    private static final String OUTSIDE = " throws IndexOutOfBoundsException";

    private static final List<String> FACE = List.of(
            "CarrierPaths(int)",
            "int piece(int,int,int)" + BOTH,
            "boolean places(int,int)",
            "boolean charger(int,boolean)",
            "int ring(int)" + BOTH,
            "int carrier(int,int)" + BOTH,
            "int job(int,int)" + BOTH,
            "int assign()",
            "int step(int)" + OUTSIDE,
            "int tick(int)" + IAE,
            "boolean close(int,boolean)",
            "boolean charge(int)" + OUTSIDE,
            "int way(int,int,int)" + IAE,
            "int look(int,int)" + OUTSIDE,
            "int of(int,int)" + OUTSIDE,
            "int count(int)");

    public static void main(String[] args) {
        Class<?> face = CarrierPaths.class;
        CHECK.yes("public", Modifier.isPublic(face.getModifiers()));
        CHECK.yes("final", Modifier.isFinal(face.getModifiers()));
        CHECK.is("NONE", -1, CarrierPaths.NONE);
        methods(face);
        fields(face);
        for (Class<?> inside : face.getDeclaredClasses()) {
            CHECK.yes("static: " + inside, Modifier.isStatic(inside.getModifiers()));
            CHECK.no("public: " + inside, Modifier.isPublic(inside.getModifiers()));
            privateNames(inside);
        }
        CHECK.end();
    }

    private static void methods(Class<?> face) {
        List<String> found = new ArrayList<>();
        for (Constructor<?> c : face.getDeclaredConstructors()) {
            found.add(written("CarrierPaths", c));
        }
        for (Method m : face.getDeclaredMethods()) {
            if (!Modifier.isPrivate(m.getModifiers())) {
                CHECK.yes("public: " + m, Modifier.isPublic(m.getModifiers()));
                CHECK.no("static: " + m, Modifier.isStatic(m.getModifiers()));
                found.add(written(m.getReturnType() + " " + m.getName(), m));
            }
        }
        List<String> due = new ArrayList<>(FACE);
        Collections.sort(due);
        Collections.sort(found);
        if (!due.equals(found)) {
            CHECK.say("the face is " + found + ", due is " + due);
        }
        privateNames(face);
    }

    private static String written(String name, Executable e) {
        List<String> takes = new ArrayList<>();
        for (Class<?> c : e.getParameterTypes()) {
            takes.add(c.getSimpleName());
        }
        List<String> failures = new ArrayList<>();
        for (Class<?> c : e.getExceptionTypes()) {
            failures.add(c.getSimpleName());
        }
        return name + "(" + String.join(",", takes) + ")"
                + (failures.isEmpty() ? "" : " throws " + String.join(",", failures));
    }

    private static void fields(Class<?> face) {
        for (Field f : face.getDeclaredFields()) {
            boolean isNone = f.getName().equals("NONE");
            CHECK.is("private: " + f, isNone ? 0 : 1, Modifier.isPrivate(f.getModifiers()) ? 1 : 0);
            if (Modifier.isStatic(f.getModifiers())) {
                CHECK.yes("final: " + f, Modifier.isFinal(f.getModifiers()));
            }
        }
    }

    private static void privateNames(Class<?> some) {
        Set<String> face = new TreeSet<>();
        for (Method m : CarrierPaths.class.getMethods()) {
            if (m.getDeclaringClass() == CarrierPaths.class) {
                face.add(m.getName());
            }
        }
        for (Method m : some.getDeclaredMethods()) {
            if (!Modifier.isPublic(m.getModifiers())) {
                CHECK.no("a name of the face: " + m, face.contains(m.getName()));
            }
        }
    }
}
