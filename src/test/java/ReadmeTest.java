import java.io.IOException;
import java.lang.reflect.Method;
import java.nio.ByteBuffer;
import java.nio.charset.StandardCharsets;
import java.nio.file.Files;
import java.nio.file.Path;
import java.util.Arrays;
import java.util.TreeSet;
import java.util.regex.Matcher;
import java.util.regex.Pattern;

/** What README.md tells of the use of the class: its book, its calls with their answers, and its tables. */
public final class ReadmeTest {
    private static final Pattern CALL = Pattern.compile("x\\.(\\w+)\\(([-0-9, ]*)\\); +// (-?[0-9.]+).*");
    private static final int CALLS = 27;

    public static void main(String[] args) throws ReflectiveOperationException, IOException {
        String readme = Files.readString(Path.of("README.md"));
        calls(block(readme, "text", 1), block(readme, "java", 2));
        helper(block(readme, "java", 1));
        allCallsAreTold(readme);
        allTestsAreTold(readme);
        Check.done();
    }

    /** What stands in the block of this kind, the first one or a later one. */
    private static String block(String readme, String kind, int which) {
        String[] parts = readme.split("```" + kind + "\n");
        return which < parts.length ? parts[which].split("```")[0] : "";
    }

    // As README.md prints it.
    static void type(HighRecipes x, String text) {
        byte[] bytes = text.getBytes(StandardCharsets.ISO_8859_1);
        ByteBuffer tape = ByteBuffer.wrap(Arrays.copyOf(bytes, (bytes.length + 19) / 20 * 20));
        while (tape.hasRemaining()) {
            x.feed(tape.getInt(), tape.getInt(), tape.getInt(), tape.getInt(), tape.getInt());
        }
        x.trim(bytes.length);
    }

    private static void helper(String told) throws IOException {
        String source = Files.readString(Path.of("src/test/java/ReadmeTest.java"));
        boolean stands = source.contains(told.replaceAll("(?m)^(?=.)", "    "));
        Check.due("README.md prints type as it stands here", !told.isEmpty() && stands ? 1 : 0, 1);
    }

    private static void calls(String book, String lines) throws ReflectiveOperationException {
        HighRecipes x = new HighRecipes();
        type(x, book);
        int calls = 0;
        for (String line : lines.split("\n")) {
            Matcher matcher = CALL.matcher(line);
            if (matcher.matches()) {
                calls++;
                Check.due("README.md: " + line, answer(x, matcher.group(1), matcher.group(2)), matcher.group(3));
            }
        }
        Check.due("calls in README.md", calls, CALLS);
    }

    private static String answer(HighRecipes x, String name, String written) throws ReflectiveOperationException {
        Object[] values = Arrays.stream(written.split("[, ]+")).filter(part -> !part.isEmpty()).map(Integer::valueOf).toArray();
        Class<?>[] types = new Class<?>[values.length];
        Arrays.fill(types, int.class);
        Method method = HighRecipes.class.getMethod(name, types);
        return String.valueOf(method.invoke(x, values));
    }

    private static void allCallsAreTold(String readme) {
        for (Method method : HighRecipes.class.getDeclaredMethods()) {
            boolean isTold = readme.contains("`" + method.getName() + "`");
            Check.due("README.md tells of " + method.getName(), isTold || method.isSynthetic() || isPrivate(method) ? 1 : 0, 1);
        }
    }

    private static boolean isPrivate(Method method) {
        return java.lang.reflect.Modifier.isPrivate(method.getModifiers());
    }

    private static void allTestsAreTold(String readme) throws IOException {
        TreeSet<String> told = new TreeSet<>();
        Matcher matcher = Pattern.compile("(?m)^\\| `(\\w+Test)`").matcher(readme);
        while (matcher.find()) {
            told.add(matcher.group(1) + ".java");
        }
        TreeSet<String> found = new TreeSet<>();
        try (var files = Files.newDirectoryStream(Path.of("src/test/java"), "*Test.java")) {
            files.forEach(file -> found.add(file.getFileName().toString()));
        }
        Check.due("the tests that README.md tells of", told.toString(), found.toString());
    }
}
