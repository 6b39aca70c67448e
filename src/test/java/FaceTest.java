import java.lang.reflect.Constructor;
import java.lang.reflect.Field;
import java.lang.reflect.Method;
import java.lang.reflect.Modifier;
import java.util.Arrays;
import java.util.HashSet;
import java.util.Set;
import java.util.TreeSet;
import java.util.stream.Collectors;

/** The class has the document's face, and no other member that is seen from outside. */
public final class FaceTest {
    private static final String INDEX = "IndexOutOfBoundsException";
    private static final String ARGUMENT = "IllegalArgumentException";
    private static final String STATE = "IllegalStateException";

    public static void main(String[] args) {
        Due due = new Due("FaceTest");
        Class<?> face = BuildingPoints.class;
        due.is("public and final", Modifier.isPublic(face.getModifiers())
                && Modifier.isFinal(face.getModifiers()));
        due.is("constructors", constructors(face), "[public ()]");
        due.is("methods", methods(face), new TreeSet<>(Set.of(
                "int addMeasure(int) " + ARGUMENT + " " + STATE,
                "int addSwitch(int,int) " + ARGUMENT + " " + STATE,
                "int write(int,int,int) " + INDEX + " " + ARGUMENT + " " + STATE,
                "int value(int) " + INDEX,
                "int command(int,int) " + INDEX + " " + ARGUMENT,
                "int standing(int) " + INDEX,
                "int held(int) " + INDEX,
                "int changes(int) " + INDEX,
                "int subscribe(int,int,int) " + INDEX + " " + ARGUMENT + " " + STATE,
                "void end(int) " + INDEX + " " + STATE,
                "boolean goesOn(int) " + INDEX,
                "int reports(int) " + INDEX,
                "int reported(int) " + INDEX,
                "int addSchedule(int,int) " + INDEX + " " + ARGUMENT + " " + STATE,
                "int weekly(int,int,int,int) " + INDEX + " " + ARGUMENT + " " + STATE,
                "int once(int,int,int,int) " + INDEX + " " + ARGUMENT + " " + STATE,
                "int tells(int,int) " + INDEX + " " + ARGUMENT,
                "int pass(int) " + ARGUMENT + " " + STATE,
                "int clock() ")).toString());
        due.is("fields", fields(face), "[public static final int NOTHING]");
        due.is("NOTHING", BuildingPoints.NOTHING, -100000);
        due.is("no private method bears a public name", privateNamesApart(face));
        due.close();
    }

    private static String constructors(Class<?> face) {
        return Arrays.stream(face.getDeclaredConstructors())
                .map(c -> Modifier.toString(c.getModifiers()) + " (" + types(c) + ")")
                .collect(Collectors.toList()).toString();
    }

    private static String types(Constructor<?> made) {
        return Arrays.stream(made.getParameterTypes()).map(Class::getSimpleName)
                .collect(Collectors.joining(","));
    }

    private static String methods(Class<?> face) {
        return Arrays.stream(face.getDeclaredMethods())
                .filter(m -> !Modifier.isPrivate(m.getModifiers()))
                .map(FaceTest::told)
                .collect(Collectors.toCollection(TreeSet::new)).toString();
    }

    private static String told(Method m) {
        String seen = m.getModifiers() == Modifier.PUBLIC ? "" : Modifier.toString(m.getModifiers()) + " ";
        return seen + m.getReturnType().getSimpleName() + " " + m.getName() + "("
                + Arrays.stream(m.getParameterTypes()).map(Class::getSimpleName)
                        .collect(Collectors.joining(","))
                + ") " + Arrays.stream(m.getExceptionTypes()).map(Class::getSimpleName)
                        .collect(Collectors.joining(" "));
    }

    private static String fields(Class<?> face) {
        return Arrays.stream(face.getDeclaredFields())
                .filter(f -> !Modifier.isPrivate(f.getModifiers()))
                .map(FaceTest::told)
                .collect(Collectors.toList()).toString();
    }

    private static String told(Field f) {
        return Modifier.toString(f.getModifiers()) + " " + f.getType().getSimpleName() + " " + f.getName();
    }

    private static boolean privateNamesApart(Class<?> face) {
        Set<String> seen = new HashSet<>();
        for (Method m : face.getDeclaredMethods()) {
            if (Modifier.isPublic(m.getModifiers())) {
                seen.add(m.getName());
            }
        }
        boolean apart = true;
        for (Method m : face.getDeclaredMethods()) {
            apart &= !Modifier.isPrivate(m.getModifiers()) || !seen.contains(m.getName());
        }
        for (Class<?> inside : face.getDeclaredClasses()) {
            for (Method m : inside.getDeclaredMethods()) {
                apart &= !seen.contains(m.getName());
            }
        }
        return apart;
    }
}
