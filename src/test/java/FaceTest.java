import java.io.IOException;
import java.lang.reflect.Constructor;
import java.lang.reflect.Field;
import java.lang.reflect.Method;
import java.lang.reflect.Modifier;
import java.nio.file.Files;
import java.nio.file.Path;
import java.util.ArrayList;
import java.util.List;
import java.util.TreeSet;
import java.util.regex.Matcher;
import java.util.regex.Pattern;

/** The public face, just as the document prints it, and what of LANGUAGE.md can be seen from outside. */
public final class FaceTest {
    private static final Path DOC = Path.of("../shared/DOC.md");
    private static final Path SOURCE = Path.of("src/main/java/HighRecipes.java");
    private static final Pattern PRINTED = Pattern.compile("public (int|long|double) (\\w+)\\((.*)\\)(?: throws (.*))?;");
    private static final int METHODS = 42;
    private static final int MOST_LINES = 60;

    public static void main(String[] args) throws IOException {
        List<String> printed = printedFace();
        face(printed);
        faceInTheSource(printed);
        headings();
        inside(HighRecipes.class);
        source();
        Check.done();
    }

    private static void must(boolean so, String what) {
        Check.due(what, so ? 1 : 0, 1);
    }

    /** The members that the document prints, a line each, the constructor first. */
    private static List<String> printedFace() throws IOException {
        List<String> members = new ArrayList<>();
        boolean within = false;
        for (String line : Files.readAllLines(DOC)) {
            if (line.startsWith("```")) {
                within = line.equals("```java");
            } else if (within && line.startsWith("    public ")) {
                members.add(line.strip());
            }
        }
        must(members.size() == METHODS + 1, "the document prints a constructor and its methods: " + members.size());
        return members;
    }

    private static void face(List<String> printed) {
        TreeSet<String> want = new TreeSet<>();
        for (String member : printed) {
            Matcher matcher = PRINTED.matcher(member);
            if (matcher.matches()) {
                String types = matcher.group(3).replaceAll(" \\w+(, |$)", "$1").replace(", ", ",");
                String thrown = matcher.group(4) == null ? "" : " " + matcher.group(4).replace(", ", " ");
                want.add(matcher.group(1) + " " + matcher.group(2) + "(" + types + ")" + thrown);
            }
        }
        must(want.size() == METHODS, "the methods that the document prints: " + want);
        TreeSet<String> got = new TreeSet<>();
        for (Method method : HighRecipes.class.getDeclaredMethods()) {
            if (Modifier.isPublic(method.getModifiers())) {
                must(!Modifier.isStatic(method.getModifiers()), method + " is not static");
                got.add(written(method));
            } else {
                must(Modifier.isPrivate(method.getModifiers()) || method.isSynthetic(), method + " is private");
            }
        }
        Check.due("the face", got.toString(), want.toString());
        must(HighRecipes.class.getFields().length == 0 && HighRecipes.class.getClasses().length == 0, "no other public member");
        int modifiers = HighRecipes.class.getModifiers();
        must(Modifier.isPublic(modifiers) && Modifier.isFinal(modifiers), "public and final");
        Constructor<?>[] all = HighRecipes.class.getDeclaredConstructors();
        must(all.length == 1 && Modifier.isPublic(all[0].getModifiers()) && all[0].getParameterCount() == 0, "one constructor");
    }

    /** Word for word and in the order of the document, with the names of what the methods take. */
    private static void faceInTheSource(List<String> printed) throws IOException {
        List<String> got = new ArrayList<>();
        for (String line : Files.readAllLines(SOURCE)) {
            if (line.startsWith("    public ")) {
                got.add(line.strip().replaceAll(" \\{$", ";"));
            }
        }
        Check.due("the face in the source", String.join("\n", got), String.join("\n", printed));
    }

    /** "Ahead of the calls ... the interface says: ---- ..." */
    private static void headings() throws IOException {
        String heading = "";
        StringBuilder got = new StringBuilder();
        for (String line : Files.readAllLines(SOURCE)) {
            Matcher method = Pattern.compile("    public \\w+ (\\w+)\\(.*").matcher(line);
            if (line.startsWith("    // ---- ")) {
                heading = line.substring(7);
            } else if (method.matches()) {
                got.append(method.group(1)).append(": ").append(heading).append("\n");
            }
        }
        StringBuilder want = new StringBuilder();
        Matcher sentence = Pattern.compile("Ahead of the calls (.*) the interface says: (---- .*)\\.").matcher(Files.readString(DOC));
        while (sentence.find()) {
            for (String call : sentence.group(1).split(", ")) {
                want.append(call.replace("`", "")).append(": ").append(sentence.group(2)).append("\n");
            }
        }
        Check.due("the headings", got.toString(), want.toString());
    }

    private static String written(Method method) {
        StringBuilder text = new StringBuilder(method.getReturnType().getName() + " " + method.getName() + "(");
        for (Class<?> type : method.getParameterTypes()) {
            text.append(text.charAt(text.length() - 1) == '(' ? "" : ",").append(type.getName());
        }
        text.append(")");
        for (Class<?> type : method.getExceptionTypes()) {
            text.append(" ").append(type.getSimpleName());
        }
        return text.toString();
    }

    private static void inside(Class<?> type) {
        List<String> face = new ArrayList<>();
        for (Method method : HighRecipes.class.getMethods()) {
            face.add(method.getName());
        }
        int fields = 0;
        for (Field field : type.getDeclaredFields()) {
            fields += Modifier.isStatic(field.getModifiers()) ? 0 : 1;
            boolean isConstant = field.isSynthetic() || field.isEnumConstant();
            must(isConstant || Modifier.isPrivate(field.getModifiers()), field + " is private");
            must(!Modifier.isStatic(field.getModifiers()) || Modifier.isFinal(field.getModifiers()), field + " is final");
        }
        must(fields <= 20, type + " has twenty fields at most");
        for (Class<?> part : type.getDeclaredClasses()) {
            must(Modifier.isPrivate(part.getModifiers()) && Modifier.isStatic(part.getModifiers()), part + " is private and static");
            for (Method method : part.getDeclaredMethods()) {
                must(!face.contains(method.getName()), method + " has a name of its own");
                must(method.getParameterCount() <= 7, method + " takes seven parameters at most");
            }
            inside(part);
        }
        must(type.getDeclaredClasses().length <= 11, "twelve classes at most");
    }

    private static void source() throws IOException {
        int lines = 0;
        for (String line : Files.readAllLines(SOURCE)) {
            must(line.chars().allMatch(c -> c < 127), "plain signs alone: " + line);
            must(!line.contains("->") && !line.contains("::"), "no lambda, no method reference: " + line);
            must(!line.matches(".*\\b(import|package|try|catch|finally|synchronized|assert|protected|Object|Exact)\\b.*"),
                "nothing beside LANGUAGE.md: " + line);
            must(!line.contains("Exact("), "nothing that ends in Exact: " + line);
            boolean begins = line.matches(" {4,8}[A-Za-z].*\\) .*\\{") && !line.matches(" *(if|for|while|switch) .*");
            lines = begins ? 0 : lines + 1;
            must(!line.matches(" {4,8}\\}") || lines <= MOST_LINES || line.equals("    }"), "short methods: " + lines);
        }
    }
}
