import java.lang.reflect.Constructor;
import java.lang.reflect.Field;
import java.lang.reflect.Method;
import java.lang.reflect.Modifier;
import java.util.Arrays;
import java.util.Set;
import java.util.TreeSet;

/** The class shows the document's face and nothing else. */
public final class FaceTest {
    private static final String[] METHODS = {
        "int write(int,long)", "int wipe()", "int fault()", "int lay()", "int mouth(int,int)",
        "int makes(int,int)", "int seat(int)", "int unseat()", "int undo()", "int chain(int)",
        "int judged()", "int word(int)", "int silence()", "int said(int,int)",
        "int comes(int,int,int)", "int was(int,int,int)", "long back(int,int)",
        "int best(int,int)", "int bribes(int)", "int parrot(int,int)", "int trial(int,int)",
        "int falls(int)", "int keep()", "int again()", "int count(int)",
    };
    private static final Set<String> CONSTANTS = Set.of("BAD", "NO", "FULL", "NONE");

    private static int wrong = 0;

    private static void check(boolean holds, String what) {
        if (!holds) {
            wrong++;
            System.out.println("not so: " + what);
        }
    }

    public static void main(String[] args) {
        Class<?> face = MouthsToJudge.class;
        check(Modifier.isPublic(face.getModifiers()), "the class is public");
        check(Modifier.isFinal(face.getModifiers()), "the class is final");
        methods(face);
        fields(face);
        Constructor<?>[] constructors = face.getDeclaredConstructors();
        check(constructors.length == 1 && constructors[0].getParameterCount() == 0
            && Modifier.isPublic(constructors[0].getModifiers()), "one public constructor");
        for (Class<?> inside : face.getDeclaredClasses()) {
            check(Modifier.isStatic(inside.getModifiers()), inside + " is static");
            check(!Modifier.isPublic(inside.getModifiers()), inside + " is not public");
        }
        check(MouthsToJudge.BAD == -1 && MouthsToJudge.NO == -2, "BAD and NO");
        check(MouthsToJudge.FULL == -3 && MouthsToJudge.NONE == -4, "FULL and NONE");
        System.out.println(wrong == 0 ? "the face is as due" : wrong + " faults");
        if (wrong != 0) {
            System.exit(1);
        }
    }

    private static void methods(Class<?> face) {
        Set<String> shown = new TreeSet<>();
        Set<String> names = new TreeSet<>();
        for (Method m : face.getDeclaredMethods()) {
            if (Modifier.isPublic(m.getModifiers())) {
                String kinds = Arrays.toString(m.getParameterTypes()).replaceAll("[\\[\\] ]", "");
                shown.add(m.getReturnType() + " " + m.getName() + "(" + kinds + ")");
                names.add(m.getName());
            }
        }
        check(shown.equals(new TreeSet<>(Arrays.asList(METHODS))), "public methods: " + shown);
        for (Method m : face.getDeclaredMethods()) {
            if (!Modifier.isPublic(m.getModifiers())) {
                check(Modifier.isPrivate(m.getModifiers()), m + " is private");
                check(!names.contains(m.getName()), m + " has a name of its own");
            }
        }
    }

    private static void fields(Class<?> face) {
        Set<String> shown = new TreeSet<>();
        for (Field f : face.getDeclaredFields()) {
            if (Modifier.isPublic(f.getModifiers())) {
                shown.add(f.getName());
                check(f.getType() == int.class && Modifier.isStatic(f.getModifiers())
                    && Modifier.isFinal(f.getModifiers()), f + " is a constant");
            } else {
                check(Modifier.isPrivate(f.getModifiers()), f + " is private");
            }
        }
        check(shown.equals(new TreeSet<>(CONSTANTS)), "public constants: " + shown);
    }
}
