import java.io.IOException;
import java.lang.reflect.InvocationTargetException;
import java.lang.reflect.Method;
import java.lang.reflect.Modifier;
import java.nio.file.DirectoryStream;
import java.nio.file.Files;
import java.nio.file.Path;
import java.util.Set;
import java.util.TreeSet;
import java.util.regex.Matcher;
import java.util.regex.Pattern;

/** Makes the calls of README.md in their order: each must answer what stands behind it. */
public final class ReadmeTests {
    private static final Pattern CALL = Pattern.compile("hotel\\.(\\w+)\\(([-0-9, ]*)\\); *// ([^:]+): .+");

    private static int calls = 0;
    private static int wrong = 0;

    private static void fault(String what) {
        wrong++;
        System.out.println("README.md: " + what);
    }

    /** What stands between a line of ``` with the kind and the next such line. */
    private static String block(String text, String kind) {
        Matcher found = Pattern.compile("(?s)```" + kind + "\n(.*?)```").matcher(text);
        if (found.find()) return found.group(1);
        fault("no block of " + kind);
        return "";
    }

    private static Method methodNamed(String name) {
        for (Method method : HotelOfBells.class.getDeclaredMethods()) {
            if (method.getName().equals(name) && Modifier.isPublic(method.getModifiers())) return method;
        }
        return null;
    }

    private static Object[] numbersOf(String list) {
        if (list.isBlank()) return new Object[0];
        String[] parts = list.split(",");
        Object[] numbers = new Object[parts.length];
        for (int i = 0; i < parts.length; i++) numbers[i] = Integer.valueOf(parts[i].trim());
        return numbers;
    }

    private static String answer(HotelOfBells hotel, Method method, Object[] numbers) throws IllegalAccessException {
        try {
            return String.valueOf(method.invoke(hotel, numbers));
        } catch (InvocationTargetException thrown) {
            return "throws " + thrown.getCause().getClass().getSimpleName();
        }
    }

    private static Set<String> callAll(HotelOfBells hotel, String code) throws IllegalAccessException {
        Set<String> called = new TreeSet<>();
        for (String line : code.split("\n")) {
            if (!line.startsWith("hotel.")) continue;
            Matcher call = CALL.matcher(line);
            Method method = call.matches() ? methodNamed(call.group(1)) : null;
            if (method == null) {
                fault("no call with an answer and its meaning: " + line);
                continue;
            }
            calls++;
            String got = answer(hotel, method, numbersOf(call.group(2)));
            if (!got.equals(call.group(3))) fault(line + "\n    it answers " + got);
            if (!got.startsWith("throws ")) called.add(method.getName());
        }
        return called;
    }

    private static void duePaper(HotelOfBells hotel, String want) {
        StringBuilder got = new StringBuilder();
        int length = hotel.count(7);
        for (int i = 0; i < length; i++) got.append((char) hotel.byteAt(i));
        if (!got.toString().equals(want)) fault("the paper is\n" + got);
    }

    private static void dueTestsNamed(String readme) throws IOException {
        if (!readme.contains(".ci/run")) fault("doesn't name .ci/run");
        try (DirectoryStream<Path> files = Files.newDirectoryStream(Path.of("src/test/java"))) {
            for (Path file : files) {
                if (!readme.contains("`src/test/java/" + file.getFileName() + "`")) fault("doesn't name " + file);
            }
        }
    }

    public static void main(String[] args) throws IOException, IllegalAccessException {
        String readme = Files.readString(Path.of("README.md"));
        HotelOfBells hotel = new HotelOfBells();
        Set<String> called = callAll(hotel, block(readme, "java"));
        for (Method method : HotelOfBells.class.getDeclaredMethods()) {
            if (!Modifier.isPublic(method.getModifiers())) continue;
            if (!called.contains(method.getName())) fault("no call of " + method.getName() + "() that is answered");
        }
        duePaper(hotel, block(readme, "text"));
        dueTestsNamed(readme);
        System.out.println(calls + " calls of README.md, " + wrong + " faults");
        if (wrong != 0) System.exit(1);
    }
}
