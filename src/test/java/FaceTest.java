import java.io.IOException;
import java.lang.reflect.Constructor;
import java.lang.reflect.Executable;
import java.lang.reflect.Field;
import java.lang.reflect.Method;
import java.lang.reflect.Modifier;
import java.nio.file.Files;
import java.nio.file.Path;
import java.util.Arrays;
import java.util.HashSet;
import java.util.List;
import java.util.Set;
import java.util.TreeSet;
import java.util.regex.Matcher;
import java.util.regex.Pattern;

/** The public face of the document, and those rules of LANGUAGE.md that a look at the file can tell. */
public final class FaceTest {
    private static final String[] FACE = {
        "int obstacle(int, int, int, int, int) Argument State",
        "int end(int) Index State",
        "int aid(int, int) Index Argument",
        "int check(int, int) Index Argument",
        "int procedure(int, int) Index Argument State",
        "int pass(int) Argument State",
        "int amend(int) Index State",
        "int raise(int, int, int, int) Index Argument State",
        "int out(int, int, int) Index Argument State",
        "int close(int, int, int) Index Argument State",
        "int cancel(int) Index State",
        "int load(int) Index",
        "int read(int) Index",
        "int ofObstacle(int, int) Index Argument",
        "int demanded(int, int, int) Index Argument",
        "int decides(int, int) Index Argument",
        "int chart(int, int) Index Argument",
        "int inForce(int, int, int) Index Argument",
        "int ofNotice(int, int) Index Argument",
        "int believes(int, int, int, int) Index Argument",
        "int misled(int) Index",
        "int many(int) Argument",
        "double meanDemanded(int) Argument",
        "int permit(int, int, int, int, int) Argument",
        "int highest(int, int, int, int) Argument",
        "int unsafeOn(int) Index",
        "int raiseFor(int) Index",
        "long digest()",
    };
    private static final String[] FORBIDDEN = {
        "\\bimport\\b", "\\bpackage\\b", "\\bcatch\\b", "\\btry\\b", "\\bfinally\\b", "\\bsynchronized\\b", "\\bassert\\b",
        "\\binstanceof\\b", "->", "::", "\\bSystem\\b", "\\bThread\\b", "\\bRandom\\b", "Exact\\b", "[^\\x00-\\x7f]",
    };

    /** What the file may take of the library's classes of functions (rule 4); a constant like MAX_VALUE is not there. */
    private static final Set<String> LISTED = Set.of("compare", "max", "min", "abs", "bitCount", "floorDiv", "floorMod");

    private static int wrong = 0;

    public static void main(String[] args) throws IOException {
        face();
        hidden();
        nested();
        source(Path.of("src/main/java/MinimaRoom.java"));
        System.out.println(wrong == 0 ? "the face is as due" : wrong + " things are not as due");
        if (wrong != 0) {
            System.exit(1);
        }
    }

    private static void require(boolean right, String what) {
        if (!right) {
            wrong++;
            System.out.println(what);
        }
    }

    private static void face() {
        int modifiers = MinimaRoom.class.getModifiers();
        require(Modifier.isPublic(modifiers) && Modifier.isFinal(modifiers), "the class is to be public and final");
        Set<String> got = new TreeSet<>();
        for (Method m : MinimaRoom.class.getDeclaredMethods()) {
            if (Modifier.isPublic(m.getModifiers())) {
                got.add(m.getReturnType() + " " + m.getName() + listed(m));
            }
        }
        Set<String> due = new TreeSet<>(Arrays.asList(FACE));
        require(got.equals(due), "the methods are " + got + ", due are " + due);
        Constructor<?>[] constructors = MinimaRoom.class.getDeclaredConstructors();
        require(constructors.length == 1 && Modifier.isPublic(constructors[0].getModifiers())
                && listed(constructors[0]).equals("()"), "one public constructor is due");
    }

    private static String listed(Executable e) {
        String types = String.join(", ", Arrays.stream(e.getParameterTypes()).map(Class::getName).toList());
        StringBuilder listed = new StringBuilder("(" + types + ")");
        for (Class<?> thrown : e.getExceptionTypes()) {
            listed.append(' ').append(thrown.getSimpleName().replaceAll("(^Illegal|OutOfBounds)?(Exception)?", ""));
        }
        return listed.toString();
    }

    private static void hidden() {
        Set<String> open = new HashSet<>();
        for (Method m : MinimaRoom.class.getMethods()) {
            open.add(m.getName());
        }
        for (Method m : MinimaRoom.class.getDeclaredMethods()) {
            boolean isPrivate = Modifier.isPrivate(m.getModifiers());
            require(isPrivate || Modifier.isPublic(m.getModifiers()), m + " is to be private");
            require(!isPrivate || !open.contains(m.getName()), m + " bears the name of a public one");
        }
        for (Field f : MinimaRoom.class.getDeclaredFields()) {
            require(Modifier.isPrivate(f.getModifiers()), f + " is to be private");
        }
    }

    private static void nested() {
        List<Class<?>> all = new java.util.ArrayList<>(Arrays.asList(MinimaRoom.class.getDeclaredClasses()));
        require(all.size() < 12, "too many classes");
        for (Class<?> c : all) {
            require(Modifier.isStatic(c.getModifiers()), c + " is to be static");
            require(!Modifier.isPublic(c.getModifiers()) && !Modifier.isProtected(c.getModifiers()), c + " is open");
        }
        all.add(MinimaRoom.class);
        for (Class<?> c : all) {
            int own = 0;
            for (Field f : c.getDeclaredFields()) {
                boolean isStatic = Modifier.isStatic(f.getModifiers());
                require(!isStatic || Modifier.isFinal(f.getModifiers()), f + " is to be final");
                own += isStatic ? 0 : 1;
            }
            require(own <= 20, c + " has too many fields");
            for (Method m : c.getDeclaredMethods()) {
                require(m.getParameterCount() <= 7, m + " takes too many parameters");
            }
        }
    }

    private static void source(Path file) throws IOException {
        String text = Files.readString(file).replaceAll("(?s)/\\*.*?\\*/", "").replaceAll("//[^\n]*", "");
        for (String forbidden : FORBIDDEN) {
            Matcher m = Pattern.compile(forbidden).matcher(text);
            require(!m.find(), "the file holds " + forbidden);
        }
        Matcher taken = Pattern.compile("\\b(Integer|Long|Math)\\s*\\.\\s*(\\w+)").matcher(text);
        while (taken.find()) {
            require(LISTED.contains(taken.group(2)), taken.group() + " is not listed in rule 4");
        }
        Matcher thrown = Pattern.compile("throw\\b[^;]*;").matcher(text);
        while (thrown.find()) {
            require(thrown.group().matches(
                    "throw new (IllegalState|IllegalArgument|IndexOutOfBounds)Exception\\(\"[^\"]*\"\\);"), thrown.group());
        }
    }
}
