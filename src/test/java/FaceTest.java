import java.io.IOException;
import java.lang.reflect.Constructor;
import java.lang.reflect.Field;
import java.lang.reflect.Method;
import java.lang.reflect.Modifier;
import java.nio.file.Files;
import java.nio.file.Path;
import java.util.ArrayList;
import java.util.List;
import java.util.TreeSet;

/** The public face, just as the document prints it, and what of LANGUAGE.md can be seen from outside. */
public final class FaceTest {
    private static final String FACE = """
        int feed(int,int,int,int,int) IllegalStateException
        int trim(int) IllegalArgumentException
        int teach()
        int errorAt()
        int pans()
        int recipes()
        int acts()
        int altitude()
        int boilingPoint()
        int servings()
        int spoon()
        int minute()
        int holdsOf(int) IndexOutOfBoundsException
        int waterIn(int) IndexOutOfBoundsException
        int mealIn(int) IndexOutOfBoundsException
        int heatOf(int) IndexOutOfBoundsException
        int doneIn(int) IndexOutOfBoundsException
        int roomIn(int) IndexOutOfBoundsException
        int boilingAt(int) IllegalArgumentException
        int minutesAt(int,int) IllegalArgumentException
        int amountFor(int) IllegalArgumentException
        int warnings()
        int warningsOf(int) IllegalArgumentException
        int warningAt(int) IndexOutOfBoundsException
        int notes()
        int noteAt(int) IndexOutOfBoundsException
        int setAltitude(int) IllegalArgumentException
        int setServings(int) IllegalArgumentException
        int setSpoon(int) IllegalArgumentException
        int pourWater(int,int) IndexOutOfBoundsException IllegalArgumentException
        int pourMeal(int,int) IndexOutOfBoundsException IllegalArgumentException
        int wash(int) IndexOutOfBoundsException
        int rest(int) IllegalArgumentException
        int cook(int) IndexOutOfBoundsException
        int minutesOfRecipe(int) IndexOutOfBoundsException
        int warningsOfRecipe(int) IndexOutOfBoundsException
        int firstWarning(int) IndexOutOfBoundsException
        int doneBehind(int,int) IndexOutOfBoundsException
        int highestSafe(int) IndexOutOfBoundsException
        int mostServings(int) IndexOutOfBoundsException
        double meanHeat()
        long digest()
        """;
    private static final int MOST_LINES = 60;

    public static void main(String[] args) throws IOException {
        face();
        inside(HighRecipes.class);
        source();
        Check.done();
    }

    private static void must(boolean so, String what) {
        Check.due(what, so ? 1 : 0, 1);
    }

    private static void face() {
        TreeSet<String> want = new TreeSet<>(List.of(FACE.strip().split("\n")));
        TreeSet<String> got = new TreeSet<>();
        for (Method method : HighRecipes.class.getDeclaredMethods()) {
            if (Modifier.isPublic(method.getModifiers())) {
                must(!Modifier.isStatic(method.getModifiers()), method + " is not static");
                got.add(written(method));
            } else {
                must(Modifier.isPrivate(method.getModifiers()) || method.isSynthetic(), method + " is private");
            }
        }
        must(got.equals(want), "the face " + got);
        int modifiers = HighRecipes.class.getModifiers();
        must(Modifier.isPublic(modifiers) && Modifier.isFinal(modifiers), "public and final");
        Constructor<?>[] all = HighRecipes.class.getDeclaredConstructors();
        must(all.length == 1 && Modifier.isPublic(all[0].getModifiers()) && all[0].getParameterCount() == 0, "one constructor");
    }

    private static String written(Method method) {
        StringBuilder text = new StringBuilder(method.getReturnType().getName() + " " + method.getName() + "(");
        for (Class<?> type : method.getParameterTypes()) {
            text.append(text.charAt(text.length() - 1) == '(' ? "" : ",").append(type.getName());
        }
        text.append(")");
        for (Class<?> type : method.getExceptionTypes()) {
            text.append(" ").append(type.getSimpleName());
        }
        return text.toString();
    }

    private static void inside(Class<?> type) {
        List<String> face = new ArrayList<>();
        for (Method method : HighRecipes.class.getMethods()) {
            face.add(method.getName());
        }
        int fields = 0;
        for (Field field : type.getDeclaredFields()) {
            fields += Modifier.isStatic(field.getModifiers()) ? 0 : 1;
            boolean isConstant = field.isSynthetic() || field.isEnumConstant();
            must(isConstant || Modifier.isPrivate(field.getModifiers()), field + " is private");
            must(!Modifier.isStatic(field.getModifiers()) || Modifier.isFinal(field.getModifiers()), field + " is final");
        }
        must(fields <= 20, type + " has twenty fields at most");
        for (Class<?> part : type.getDeclaredClasses()) {
            must(Modifier.isPrivate(part.getModifiers()) && Modifier.isStatic(part.getModifiers()), part + " is private and static");
            for (Method method : part.getDeclaredMethods()) {
                must(!face.contains(method.getName()), method + " has a name of its own");
                must(method.getParameterCount() <= 7, method + " takes seven parameters at most");
            }
            inside(part);
        }
        must(type.getDeclaredClasses().length <= 11, "twelve classes at most");
    }

    private static void source() throws IOException {
        int lines = 0;
        for (String line : Files.readAllLines(Path.of("src/main/java/HighRecipes.java"))) {
            must(line.chars().allMatch(c -> c < 127), "plain signs alone: " + line);
            must(!line.contains("->") && !line.contains("::"), "no lambda, no method reference: " + line);
            must(!line.matches(".*\\b(import|package|try|catch|finally|synchronized|assert|protected|Object|Exact)\\b.*"),
                "nothing beside LANGUAGE.md: " + line);
            must(!line.contains("Exact("), "nothing that ends in Exact: " + line);
            boolean begins = line.matches(" {4,8}[A-Za-z].*\\) .*\\{") && !line.matches(" *(if|for|while|switch) .*");
            lines = begins ? 0 : lines + 1;
            must(!line.matches(" {4,8}\\}") || lines <= MOST_LINES || line.equals("    }"), "short methods: " + lines);
        }
    }
}
