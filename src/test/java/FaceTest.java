import java.lang.reflect.Constructor;
import java.lang.reflect.Field;
import java.lang.reflect.Method;
import java.lang.reflect.Modifier;
import java.nio.file.Files;
import java.nio.file.Path;
import java.util.ArrayDeque;
import java.util.Arrays;
import java.util.Deque;
import java.util.Set;
import java.util.TreeSet;

/** The face is the document's, and the file keeps to those rules of the language that a text shows. */
public final class FaceTest {
    private static final String[] FACE = {
        "int plain(int,int,int,int)", "int ofField(int,int)", "int set(int,int)", "int cloud(int,int,int)",
        "int ofCloud(int,int,int)", "int shot(int,int,int,int)", "int ofShot(int,int)", "int back(int)",
        "int fell(int,int,int)", "int by(int,int)", "int yields(int)", "int harvest(int)", "long brought(int,int)",
        "int due(int,int)", "int idle(int)", "int oneMore(int,int,int)", "long awaited(int,int)",
        "int rests(int,int,int,int)", "int bestWind(int)", "int missed(int,int,int)", "int sheet(int,int,int)",
        "int lose(int)", "int put(int,int,int)", "long cell(int,int,int)", "int copy(int,int,int,int,int)",
        "int tell(int)", "int load(int)", "int as(int,int)", "int trace()", "int fault()", "int many(int)",
    };
    private static final String[] CONSTANTS = {
        "int UNKNOWN", "int OUTSIDE", "int STATE", "int FULL", "int NONE", "long LOST",
    };
    private static final String[] NOT_IN_THE_LANGUAGE = {
        "import", "throw", "throws", "try", "catch", "synchronized", "assert", "package", "native", "volatile",
        "double", "float", "Object", "Math.\\w+Exact", "->", "::", "@\\w+",
    };

    private static final Check check = new Check();

    public static void main(String[] args) throws Exception {
        members();
        sizes();
        constants();
        text();
        check.end();
    }

    private static void members() {
        Class<RainAccount> c = RainAccount.class;
        Set<String> face = new TreeSet<>();
        Set<String> names = new TreeSet<>();
        for (Method m : c.getDeclaredMethods()) {
            if (!Modifier.isPrivate(m.getModifiers())) {
                String with = Arrays.toString(Arrays.stream(m.getParameterTypes()).map(Class::getName).toArray());
                String parameters = with.substring(1, with.length() - 1).replace(" ", "");
                face.add(m.getReturnType().getName() + " " + m.getName() + "(" + parameters + ")");
                names.add(m.getName());
                int how = m.getModifiers();
                yes("public, of an object: " + m, Modifier.isPublic(how) && !Modifier.isStatic(how));
            }
        }
        yes("methods " + face, face.equals(new TreeSet<>(Arrays.asList(FACE))));
        for (Method m : c.getDeclaredMethods()) {
            yes("a name of the face: " + m, !Modifier.isPrivate(m.getModifiers()) || !names.contains(m.getName()));
        }
        Constructor<?>[] made = c.getDeclaredConstructors();
        yes("one constructor", made.length == 1 && Modifier.isPublic(made[0].getModifiers()));
        yes("public and final", Modifier.isPublic(c.getModifiers()) && Modifier.isFinal(c.getModifiers()));
        yes("no package", c.getPackageName().isEmpty());
        for (Class<?> inside : c.getDeclaredClasses()) {
            int how = inside.getModifiers();
            boolean hidden = !Modifier.isPublic(how) && !Modifier.isProtected(how);
            yes("static inside: " + inside, Modifier.isStatic(how) && hidden);
        }
    }

    /** Not too many parameters, classes and fields. */
    private static void sizes() {
        Class<?>[] inside = RainAccount.class.getDeclaredClasses();
        yes("some twelve classes", inside.length < 12);
        size(RainAccount.class);
        for (Class<?> c : inside) {
            size(c);
        }
    }

    private static void size(Class<?> c) {
        long fields = Arrays.stream(c.getDeclaredFields()).filter(f -> !Modifier.isStatic(f.getModifiers())).count();
        yes("some twenty fields: " + c, fields <= 20);
        for (Method m : c.getDeclaredMethods()) {
            yes("at most seven parameters: " + m, m.getParameterCount() <= 7);
        }
        for (Constructor<?> made : c.getDeclaredConstructors()) {
            yes("at most seven parameters: " + made, made.getParameterCount() <= 7);
        }
        for (Field f : c.getDeclaredFields()) {
            int how = f.getModifiers();
            yes("static and not final: " + f, !Modifier.isStatic(how) || Modifier.isFinal(how));
        }
    }

    private static void constants() throws IllegalAccessException {
        Set<String> told = new TreeSet<>();
        for (Field f : RainAccount.class.getDeclaredFields()) {
            if (!Modifier.isPrivate(f.getModifiers())) {
                told.add(f.getType().getName() + " " + f.getName());
                yes("a constant: " + f, Modifier.isStatic(f.getModifiers()) && Modifier.isFinal(f.getModifiers()));
            }
        }
        yes("constants " + told, told.equals(new TreeSet<>(Arrays.asList(CONSTANTS))));
        check.due("UNKNOWN", RainAccount.UNKNOWN, -1);
        check.due("OUTSIDE", RainAccount.OUTSIDE, -2);
        check.due("STATE", RainAccount.STATE, -3);
        check.due("FULL", RainAccount.FULL, -4);
        check.due("NONE", RainAccount.NONE, -9);
        check.due("LOST", RainAccount.LOST, Long.MIN_VALUE);
    }

    private static void text() throws Exception {
        String source = Files.readString(Path.of("src/main/java/RainAccount.java"));
        String code = source.replaceAll("(?s)/\\*.*?\\*/", " ").replaceAll("//[^\n]*", " ");
        for (String word : NOT_IN_THE_LANGUAGE) {
            String whole = word.matches("\\w+") ? "\\b" + word + "\\b" : word;
            yes("not in the language: " + word, !java.util.regex.Pattern.compile(whole).matcher(code).find());
        }
        makesOnlyInConstructors(code);
        shortBlocks(source.split("\n"));
    }

    /** All calls of a run live in one room: rows are made once, by a constructor or a field that begins with one. */
    private static void makesOnlyInConstructors(String code) {
        int from = code.indexOf("    public RainAccount() {\n");
        int to = code.indexOf("\n    }\n", from);
        yes("the constructor is found", from >= 0 && to > from);
        String rest = code.substring(0, Math.max(from, 0)) + code.substring(Math.max(to, 0));
        for (String line : rest.split("\n")) {
            boolean makes = line.matches(".*(\\bnew\\b|\\.clone\\(|copyOf|\\bList\\.of|substring|toCharArray|\"\\s*\\+).*");
            boolean row = line.matches("\\s+(private )?final int\\[] \\w+ = new int\\[[\\w.]+];");
            yes("a call makes something: " + line.strip(), !makes || row);
        }
    }

    /** No block but that of a class has more than sixty lines. */
    private static void shortBlocks(String[] lines) {
        Deque<Integer> open = new ArrayDeque<>();
        for (int i = 0; i < lines.length; i++) {
            String line = lines[i].strip();
            if (line.startsWith("}") && !open.isEmpty()) {
                int first = open.pop();
                boolean isClass = lines[first].contains(" class ");
                yes("a block of more than sixty lines, from line " + (first + 1), isClass || i - first < 60);
            }
            if (line.endsWith("{")) {
                open.push(i);
            }
        }
        yes("all blocks are closed", open.isEmpty());
    }

    private static void yes(String what, boolean holds) {
        check.yes(what, holds);
    }
}
