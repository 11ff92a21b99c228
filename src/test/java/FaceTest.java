import java.lang.reflect.Constructor;
import java.lang.reflect.Field;
import java.lang.reflect.Method;
import java.lang.reflect.Modifier;
import java.util.Arrays;
import java.util.Set;
import java.util.TreeSet;

/** The face is the document's: no method, constructor or constant less, and none more. */
public final class FaceTest {
    private static final String[] FACE = {
        "int plain(int,int,int,int)", "int ofField(int,int)", "int set(int,int)", "int cloud(int,int,int)",
        "int ofCloud(int,int,int)", "int shot(int,int,int,int)", "int ofShot(int,int)", "int back(int)",
        "int fell(int,int,int)", "int by(int,int)", "int yields(int)", "int harvest(int)", "long brought(int,int)",
        "int due(int,int)", "int idle(int)", "int oneMore(int,int,int)", "long awaited(int,int)",
        "int rests(int,int,int,int)", "int bestWind(int)", "int missed(int,int,int)", "int sheet(int,int,int)",
        "int lose(int)", "int put(int,int,int)", "long cell(int,int,int)", "int copy(int,int,int,int,int)",
        "int tell(int)", "int load(int)", "int as(int,int)", "int trace()", "int fault()", "int many(int)",
    };
    private static final String[] CONSTANTS = {
        "int UNKNOWN", "int OUTSIDE", "int STATE", "int FULL", "int NONE", "long LOST",
    };

    private static final Check check = new Check();

    public static void main(String[] args) throws Exception {
        members();
        constants();
        check.end();
    }

    private static void members() {
        Class<RainAccount> c = RainAccount.class;
        Set<String> face = new TreeSet<>();
        Set<String> names = new TreeSet<>();
        for (Method m : c.getDeclaredMethods()) {
            if (!Modifier.isPrivate(m.getModifiers())) {
                String with = Arrays.toString(Arrays.stream(m.getParameterTypes()).map(Class::getName).toArray());
                String parameters = with.substring(1, with.length() - 1).replace(" ", "");
                face.add(m.getReturnType().getName() + " " + m.getName() + "(" + parameters + ")");
                names.add(m.getName());
                int how = m.getModifiers();
                yes("public, of an object: " + m, Modifier.isPublic(how) && !Modifier.isStatic(how));
            }
        }
        yes("methods " + face, face.equals(new TreeSet<>(Arrays.asList(FACE))));
        for (Method m : c.getDeclaredMethods()) {
            yes("a name of the face: " + m, !Modifier.isPrivate(m.getModifiers()) || !names.contains(m.getName()));
        }
        Constructor<?>[] made = c.getDeclaredConstructors();
        yes("one constructor", made.length == 1 && Modifier.isPublic(made[0].getModifiers()));
        yes("public and final", Modifier.isPublic(c.getModifiers()) && Modifier.isFinal(c.getModifiers()));
        yes("no package", c.getPackageName().isEmpty());
        for (Class<?> inside : c.getDeclaredClasses()) {
            int how = inside.getModifiers();
            boolean hidden = !Modifier.isPublic(how) && !Modifier.isProtected(how);
            yes("static inside: " + inside, Modifier.isStatic(how) && hidden);
        }
    }

    private static void constants() throws IllegalAccessException {
        Set<String> told = new TreeSet<>();
        for (Field f : RainAccount.class.getDeclaredFields()) {
            if (!Modifier.isPrivate(f.getModifiers())) {
                told.add(f.getType().getName() + " " + f.getName());
                yes("a constant: " + f, Modifier.isStatic(f.getModifiers()) && Modifier.isFinal(f.getModifiers()));
            }
        }
        yes("constants " + told, told.equals(new TreeSet<>(Arrays.asList(CONSTANTS))));
        check.due("UNKNOWN", RainAccount.UNKNOWN, -1);
        check.due("OUTSIDE", RainAccount.OUTSIDE, -2);
        check.due("STATE", RainAccount.STATE, -3);
        check.due("FULL", RainAccount.FULL, -4);
        check.due("NONE", RainAccount.NONE, -9);
        check.due("LOST", RainAccount.LOST, Long.MIN_VALUE);
    }

    private static void yes(String what, boolean holds) {
        check.yes(what, holds);
    }
}
