import java.lang.reflect.Constructor;
import java.lang.reflect.Field;
import java.lang.reflect.Method;
import java.lang.reflect.Modifier;
import java.util.Arrays;
import java.util.TreeSet;

/** The public face is the document's and no more; constants have the document's values. */
public final class FaceTest {
    private static final String[] METHODS = {
        "int cut(int,int,int)", "int strip(int,int)", "int share(int,int,int)", "int places(int,int)",
        "int read(int,int,int)", "int write(int,int,int,int)", "int turn(int,int,int,int)", "int head(int,int)",
        "int play(int,int)", "long heard(int,int)", "int quiet(int)", "int comb(int,int,int,int)", "int drop(int)",
        "int about(int,int)", "int loosen(int,int)", "int hang(int,int,int)", "int fit(int,int,int)",
        "int cell(int,int,int)", "int set(int,int,int,int)", "int twist(int,int,int,int)", "int state()"};
    private static final Due due = new Due();

    public static void main(String[] args) {
        constants();
        methods();
        constructors();
        due.is("the class is public and final", MusicBoxes.class.getModifiers(), Modifier.PUBLIC | Modifier.FINAL);
        for (Class<?> inside : MusicBoxes.class.getDeclaredClasses()) {
            due.is(inside + " is static", Modifier.isStatic(inside.getModifiers()) ? 1 : 0, 1);
            due.is(inside + " is hidden", isSeen(inside.getModifiers()) ? 1 : 0, 0);
        }
        due.end();
    }

    private static boolean isSeen(int modifiers) {
        return Modifier.isPublic(modifiers) || Modifier.isProtected(modifiers);
    }

    private static void constants() {
        due.is("NONE", MusicBoxes.NONE, -1);
        due.is("LACKING", MusicBoxes.LACKING, -2);
        due.is("BEYOND", MusicBoxes.BEYOND, -3);
        due.is("SIZE", MusicBoxes.SIZE, -4);
        due.is("BOUND", MusicBoxes.BOUND, -5);
        int seen = 0;
        for (Field f : MusicBoxes.class.getDeclaredFields()) {
            if (!Modifier.isPrivate(f.getModifiers())) {
                seen++;
                due.is(f.getName(), f.getModifiers(), Modifier.PUBLIC | Modifier.STATIC | Modifier.FINAL);
            }
        }
        due.is("fields of the face", seen, 5);
    }

    private static void methods() {
        TreeSet<String> got = new TreeSet<>();
        TreeSet<String> names = new TreeSet<>();
        for (Method m : MusicBoxes.class.getDeclaredMethods()) {
            if (!Modifier.isPrivate(m.getModifiers())) {
                due.is(m.getName() + " is public", m.getModifiers(), Modifier.PUBLIC);
                String parameters = String.join(",", Arrays.stream(m.getParameterTypes()).map(Class::getName).toList());
                got.add(m.getReturnType() + " " + m.getName() + "(" + parameters + ")");
                names.add(m.getName());
            }
        }
        due.is("methods " + got, got.equals(new TreeSet<>(Arrays.asList(METHODS))) ? 1 : 0, 1);
        for (Method m : MusicBoxes.class.getDeclaredMethods()) {
            if (Modifier.isPrivate(m.getModifiers())) {
                due.is(m.getName() + " is no name of the face", names.contains(m.getName()) ? 1 : 0, 0);
            }
        }
    }

    private static void constructors() {
        Constructor<?>[] all = MusicBoxes.class.getDeclaredConstructors();
        due.is("constructors", all.length, 1);
        due.is("its parameters", all[0].getParameterCount(), 0);
        due.is("it is public", all[0].getModifiers(), Modifier.PUBLIC);
    }
}
