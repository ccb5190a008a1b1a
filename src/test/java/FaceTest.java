import java.lang.reflect.Constructor;
import java.lang.reflect.Field;
import java.lang.reflect.Method;
import java.lang.reflect.Modifier;
import java.util.Arrays;
import java.util.HashSet;
import java.util.Set;
import java.util.TreeSet;

/** The class has the document's face and no other; no private method bears a public one's name. */
public final class FaceTest {
    private static final String[] FACE = {"feed 5", "end 1", "land 0", "rule 0", "way 2", "goer 2", "place 2", "far 2",
        "go 2", "turn 1", "fewest 1", "step 2", "comes 2", "closed 2", "alike 0", "decoys 1", "post 3", "longest 3",
        "covers 1", "settles 2", "row 2", "done 0", "free 1", "tick 2", "ahead 3", "finest 1", "home 2", "seed 1",
        "days 4", "count 1", "image 1", "back 1"};

    public static void main(String[] args) {
        Class<?> face = TurningRoads.class;
        Check.due("public and final", face.getModifiers() & (Modifier.PUBLIC | Modifier.FINAL), Modifier.PUBLIC | Modifier.FINAL);
        Set<String> due = new TreeSet<>(Arrays.asList(FACE));
        Set<String> names = new HashSet<>();
        for (String told : FACE) {
            names.add(told.split(" ")[0]);
        }
        Set<String> found = new TreeSet<>();
        for (Method m : face.getDeclaredMethods()) {
            if (Modifier.isPrivate(m.getModifiers())) {
                Check.due("private with a public one's name: " + m, names.contains(m.getName()) ? 1 : 0, 0);
            } else {
                Check.due("public, not static: " + m, m.getModifiers(), Modifier.PUBLIC);
                Check.due("answers an int: " + m, m.getReturnType() == int.class ? 1 : 0, 1);
                found.add(m.getName() + " " + m.getParameterCount());
            }
        }
        Check.due("methods " + found, found.equals(due) ? 1 : 0, 1);
        for (Field f : face.getDeclaredFields()) {
            boolean isNone = f.getName().equals("NONE");
            Check.due("field " + f, Modifier.isPrivate(f.getModifiers()) ? 0 : 1, isNone ? 1 : 0);
        }
        for (Constructor<?> c : face.getDeclaredConstructors()) {
            Check.due("constructor " + c, Modifier.isPublic(c.getModifiers()) && c.getParameterCount() == 0 ? 1 : 0, 1);
        }
        Check.due("classes", face.getDeclaredClasses().length <= 11 ? 1 : 0, 1);
        for (Class<?> inside : face.getDeclaredClasses()) {
            Check.due("static " + inside, Modifier.isStatic(inside.getModifiers()) ? 1 : 0, 1);
            int fields = 0;
            for (Field f : inside.getDeclaredFields()) {
                boolean constant = Modifier.isStatic(f.getModifiers());
                fields += constant ? 0 : 1;
                Check.due("static is final " + f, !constant || Modifier.isFinal(f.getModifiers()) ? 1 : 0, 1);
            }
            Check.due("fields of " + inside, fields <= 20 ? 1 : 0, 1);
            for (Method m : inside.getDeclaredMethods()) {
                Check.due("parameters of " + m, m.getParameterCount() <= 7 ? 1 : 0, 1);
                Check.due("a public one's name inside: " + m, names.contains(m.getName()) ? 1 : 0, 0);
            }
        }
        Check.finish();
    }
}
