import java.io.IOException;
import java.lang.reflect.Constructor;
import java.lang.reflect.Field;
import java.lang.reflect.Method;
import java.lang.reflect.Modifier;
import java.nio.file.Files;
import java.nio.file.Path;
import java.util.Arrays;
import java.util.Set;
import java.util.TreeSet;
import java.util.regex.Matcher;
import java.util.regex.Pattern;

/** The class has the document's face and no other, and its source keeps to what LANGUAGE.md leaves. */
final class FaceTest {
    private static final String[] FACE = {"int feed(int,int,int,int,int)", "int text(int)", "int fault(int)",
        "int named(int,int)", "int lawful()", "int without(int)", "int forbids()", "int draw(int,int)",
        "int judge(int)", "boolean order(int)", "int ball(int)", "int why(int)", "int clear()", "int placed(int)",
        "boolean arrange(int)", "int undo()", "int ends(int)", "int blame(int)", "long pair(int,int,int)",
        "long place(int,int,int)", "long all(int)", "long apart(int,int,int)", "int nearest(int)", "int leads(int)",
        "long moves(int,int,int)", "int leave(int)", "int parts(int)", "int mix(int,int)", "long mixed(int,int)",
        "int run(int,int)", "int evenly(int,int)", "int look(int,int)", "int count(int)"};
    private static final String[] BANNED = {"->", "::", "\\bsynchronized\\b", "\\bassert\\b", "\\bfinally\\b",
        "\\btry\\b", "\\bcatch\\b", "Exact\\b", "\\bSystem\\.(?!arraycopy\\b)", "\\bMath\\.(?!abs\\b|min\\b|max\\b)",
        "\\bInteger\\.(?!bitCount\\b|MAX_VALUE\\b)", "\\bArrays\\.(?!fill\\b)", "\\bLong\\.(?!MIN_VALUE\\b|MAX_VALUE\\b)",
        "\\bdouble\\b", "\\bfloat\\b", "\\bthrow new (?!IndexOutOfBoundsException\\(|NoSuchElementException\\()",
        "[^\\x00-\\x7f]", "\\bpackage\\b", "\\bString\\b"};

    private static final Path DOCUMENT = Path.of("../shared/DOC.md");

    private static int wrong;

    private FaceTest() {
    }

    private static void hold(boolean holds, String what) {
        if (!holds) {
            wrong++;
            System.out.println("not so: " + what);
        }
    }

    public static void main(String[] args) throws IOException {
        face();
        parts(BallPots.class);
        for (Class<?> inside : BallPots.class.getDeclaredClasses()) {
            hold(Modifier.isStatic(inside.getModifiers()) && Modifier.isPrivate(inside.getModifiers()),
                    inside + " is static and private");
            parts(inside);
        }
        hold(BallPots.class.getDeclaredClasses().length <= 11, "at most twelve classes");
        documentsFace();
        Path source = Path.of("src/main/java/BallPots.java");
        hold(Files.exists(source), "the test is run where the project's files are");
        String code = Files.readString(source).replaceAll("(?s)/\\*.*?\\*/", "");
        for (String banned : BANNED) {
            Matcher m = Pattern.compile(banned).matcher(code);
            hold(!m.find(), "no " + banned + " in the source");
        }
        System.out.println("the face and the language, " + wrong + " things are not so");
        System.exit(wrong == 0 ? 0 : 1);
    }

    private static void face() {
        Class<?> c = BallPots.class;
        hold(Modifier.isFinal(c.getModifiers()) && Modifier.isPublic(c.getModifiers()), "public and final");
        Set<String> open = new TreeSet<>();
        Set<String> names = new TreeSet<>();
        for (Method m : c.getDeclaredMethods()) {
            if (!Modifier.isPrivate(m.getModifiers())) {
                hold(Modifier.isPublic(m.getModifiers()) && !Modifier.isStatic(m.getModifiers()), m + " is of the face");
                StringBuilder types = new StringBuilder();
                for (Class<?> type : m.getParameterTypes()) {
                    types.append(types.length() == 0 ? "" : ",").append(type);
                }
                open.add(m.getReturnType() + " " + m.getName() + "(" + types + ")");
                names.add(m.getName());
            }
        }
        hold(open.equals(new TreeSet<>(Arrays.asList(FACE))), "the face is " + open);
        noPrivateNamesake(c, names);
        for (Class<?> inside : c.getDeclaredClasses()) {
            noPrivateNamesake(inside, names);
        }
        Constructor<?>[] constructors = c.getDeclaredConstructors();
        hold(constructors.length == 1 && Modifier.isPublic(constructors[0].getModifiers())
                && constructors[0].getParameterCount() == 0, "one public constructor");
        for (Field f : c.getDeclaredFields()) {
            hold(Modifier.isPrivate(f.getModifiers()) || f.getName().equals("NONE"), f + " is private");
        }
        hold(BallPots.NONE == -1, "NONE is -1");
    }

    /** The rows above are those of the document, and look alone declares what it throws. */
    private static void documentsFace() throws IOException {
        Set<String> throwing = new TreeSet<>();
        for (Method m : BallPots.class.getDeclaredMethods()) {
            for (Class<?> type : m.getExceptionTypes()) {
                throwing.add(m.getName() + " " + type.getSimpleName());
            }
        }
        hold(throwing.equals(Set.of("look IndexOutOfBoundsException", "look NoSuchElementException")),
                "declared to be thrown: " + throwing);
        if (Files.exists(DOCUMENT)) {
            Set<String> told = new TreeSet<>();
            Matcher m = Pattern.compile("public (\\w+ \\w+\\([^)]*\\))").matcher(Files.readString(DOCUMENT));
            while (m.find()) {
                told.add(m.group(1).replaceAll(" \\w+(?=[,)])", "").replace(", ", ","));
            }
            hold(told.equals(new TreeSet<>(Arrays.asList(FACE))), "the document's face is " + told);
        }
    }

    private static void noPrivateNamesake(Class<?> c, Set<String> names) {
        for (Method m : c.getDeclaredMethods()) {
            hold(Modifier.isPublic(m.getModifiers()) || !names.contains(m.getName()), m + " has a name of its own");
        }
    }

    private static void parts(Class<?> c) {
        int fields = 0;
        for (Field f : c.getDeclaredFields()) {
            if (Modifier.isStatic(f.getModifiers())) {
                hold(Modifier.isFinal(f.getModifiers()), f + " is final");
            } else {
                fields++;
            }
        }
        hold(fields <= 20, c + " has at most twenty fields");
        for (Method m : c.getDeclaredMethods()) {
            hold(m.getParameterCount() <= 7, m + " has at most seven parameters");
        }
    }
}
