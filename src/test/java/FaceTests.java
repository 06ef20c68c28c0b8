import java.io.IOException;
import java.lang.reflect.Constructor;
import java.lang.reflect.Field;
import java.lang.reflect.Method;
import java.lang.reflect.Modifier;
import java.nio.file.Files;
import java.nio.file.Path;
import java.util.Arrays;
import java.util.Set;
import java.util.TreeSet;
import java.util.regex.Matcher;
import java.util.regex.Pattern;

/** The public face, word for word, and those rules of LANGUAGE.md that the class or its text shows. */
public final class FaceTests {
    private static final String SOURCE = "src/main/java/HotelOfBells.java";
    private static final String[] FACE = {
        "int addFloor(int) IllegalArgumentException IllegalStateException",
        "int setTune(int, int, int) IndexOutOfBoundsException IllegalArgumentException",
        "int addLift() IllegalStateException",
        "int setDoor(int, int, int) IndexOutOfBoundsException IllegalArgumentException",
        "int addGuest(int, int) IndexOutOfBoundsException IllegalStateException",
        "boolean want(int, int, int) IndexOutOfBoundsException",
        "int floor(int, int) IndexOutOfBoundsException",
        "int place(int, int) IndexOutOfBoundsException",
        "int lift(int, int) IndexOutOfBoundsException",
        "int guest(int, int) IndexOutOfBoundsException",
        "int count(int) IndexOutOfBoundsException",
        "int ring(int) IllegalArgumentException",
        "int play(int) IllegalArgumentException",
        "int foresee(int, int) IndexOutOfBoundsException IllegalArgumentException",
        "int advise(int, int) IndexOutOfBoundsException IllegalArgumentException",
        "int wouldTurn(int) IllegalArgumentException",
        "int write()",
        "int byteAt(int) IndexOutOfBoundsException",
        "double home()",
        "long digest()"};
    private static final String[] FORBIDDEN = {"Exact\\(", "\\bcatch\\b", "\\bfinally\\b", "\\bsynchronized\\b",
        "\\bassert\\b", "->", "::", "\\bSystem\\b(?!\\.arraycopy)", "\\bRandom\\b", "\\bThread\\b", "\\bfloat\\b",
        "\\.hashCode\\b", "\\.toString\\b", "\\bpackage\\b", "import (?!java\\.util\\.ArrayList;)"};

    private static int wrong = 0;

    private static void due(boolean holds, String what) {
        if (!holds) {
            wrong++;
            System.out.println("not as due: " + what);
        }
    }

    private static String told(Method method) {
        StringBuilder text = new StringBuilder();
        text.append(method.getReturnType().getSimpleName()).append(' ').append(method.getName()).append('(');
        String between = "";
        for (Class<?> type : method.getParameterTypes()) {
            text.append(between).append(type.getSimpleName());
            between = ", ";
        }
        text.append(')');
        for (Class<?> type : method.getExceptionTypes()) text.append(' ').append(type.getSimpleName());
        return text.toString();
    }

    private static void face() {
        due(Modifier.isPublic(HotelOfBells.class.getModifiers()), "the class is public");
        due(Modifier.isFinal(HotelOfBells.class.getModifiers()), "the class is final");
        Constructor<?>[] made = HotelOfBells.class.getDeclaredConstructors();
        due(made.length == 1 && made[0].getParameterCount() == 0 && Modifier.isPublic(made[0].getModifiers()),
            "one public constructor without parameters");
        Set<String> got = new TreeSet<>();
        Set<String> publicNames = new TreeSet<>();
        for (Method method : HotelOfBells.class.getDeclaredMethods()) {
            if (Modifier.isPublic(method.getModifiers())) {
                got.add(told(method));
                publicNames.add(method.getName());
            }
        }
        due(got.equals(new TreeSet<>(Arrays.asList(FACE))), "the face; it is " + got);
        for (Method method : HotelOfBells.class.getDeclaredMethods()) {
            if (Modifier.isPublic(method.getModifiers()) || method.isSynthetic()) continue;
            due(Modifier.isPrivate(method.getModifiers()), "private: " + method.getName());
            due(!publicNames.contains(method.getName()), "a name of its own: " + method.getName());
            due(method.getParameterCount() <= 7, "at most seven parameters: " + method.getName());
        }
    }

    private static void classes() {
        due(HotelOfBells.class.getDeclaredClasses().length < 12, "at most twelve classes");
        checkFields(HotelOfBells.class);
        for (Field field : HotelOfBells.class.getDeclaredFields()) {
            due(Modifier.isPrivate(field.getModifiers()) || field.isSynthetic(), "private: " + field.getName());
        }
        for (Class<?> inside : HotelOfBells.class.getDeclaredClasses()) {
            due(Modifier.isStatic(inside.getModifiers()), "static: " + inside.getName());
            due(!Modifier.isPublic(inside.getModifiers()), "not public: " + inside.getName());
            checkFields(inside);
        }
    }

    private static void checkFields(Class<?> type) {
        int own = 0;
        for (Field field : type.getDeclaredFields()) {
            if (Modifier.isStatic(field.getModifiers())) {
                due(Modifier.isFinal(field.getModifiers()), "a static field is final: " + field.getName());
            } else {
                own++;
            }
        }
        due(own <= 20, "at most twenty fields: " + type.getName());
    }

    private static void text() throws IOException {
        String source = Files.readString(Path.of(SOURCE));
        for (char sign : source.toCharArray()) due(sign >= 1 && sign <= 127, "a sign of 1 to 127: " + (int) sign);
        String code = source.replaceAll("(?s)/\\*.*?\\*/", "").replaceAll("//[^\n]*", "").replaceAll("\"[^\"\n]*\"", "\"\"");
        for (String pattern : FORBIDDEN) {
            Matcher found = Pattern.compile(pattern).matcher(code);
            due(!found.find(), "nothing like " + pattern);
        }
        Matcher thrown = Pattern.compile("throw (?!new (IllegalState|IllegalArgument|IndexOutOfBounds)Exception\\(\"\"\\);)").matcher(code);
        due(!thrown.find(), "throw new E(\"a written text\") alone");
        methodsAreShort(source);
        callsOfItselfAreStatic(code);
    }

    /** Rule 8 lets a private static method call itself, and private methods call one another. */
    private static void callsOfItselfAreStatic(String code) {
        Pattern header = Pattern.compile(" {4}(?: {4})?(?:(public|private) )?(static )?[\\w<>\\[\\]]+ (\\w+)\\(.*");
        String name = null;
        boolean mayCallItself = false;
        for (String line : code.split("\n")) {
            Matcher begun = header.matcher(line);
            if (begun.matches() && !line.endsWith(";") && !line.trim().startsWith("return ")) {
                name = begun.group(3);
                mayCallItself = "private".equals(begun.group(1)) && begun.group(2) != null;
            } else if (name != null && !mayCallItself) {
                due(!line.matches(".*(?<![.\\w])" + name + "\\(.*"), "private and static, for it calls itself: " + name);
            }
        }
    }

    /** A method begins at four or eight blanks with a line that opens a block, and ends at as many. */
    private static void methodsAreShort(String source) {
        String[] lines = source.split("\n");
        int begun = -1;
        for (int i = 0; i < lines.length; i++) {
            if (lines[i].matches(" {4}(public|private) [^;=]*\\(.*")) begun = i;
            if (lines[i].equals("    }") && begun >= 0) {
                due(i - begun < 60, "a short method at line " + (begun + 1));
                begun = -1;
            }
        }
    }

    public static void main(String[] args) throws IOException {
        face();
        classes();
        text();
        System.out.println(wrong == 0 ? "the face and the text are as due" : wrong + " things are not as due");
        if (wrong != 0) System.exit(1);
    }
}
