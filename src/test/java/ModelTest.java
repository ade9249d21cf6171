import java.nio.charset.StandardCharsets;
import java.util.ArrayList;
import java.util.Arrays;
import java.util.List;

/** Many books and calls, always the same ones, each answered by the class and by the model of the document. */
public final class ModelTest {
    private static final int OBJECTS = 600;
    private static final String[] PANS = {"pot", "wok", "tin", "jar", "a", "abcdefgh", "vat", "urn", "pa", "pann"};
    private static final String[] RECIPES = {"stew", "soup", "dry", "mix", "brew", "dip", "tea", "broth"};
    private static final String[] ODD = {
        "pan", "holds", "recipe", "pour", "water", "meal", "into", "heat", "to", "boil", "for", "empty", "rest", "note", "cook",
        "again", "if", "and", "else", "altitude", "boiling", "minute", "servings", "spoon", "of", "done", "room", "(", ")", ";",
        "<", ">", "=", "+", "-", "*", "/", "0", "7", "200", "201", "999", "1000", "pot", "stew", "zzz", "abcdefghi", "A", "\t",
    };

    private long seed = 20261119;
    private final int[] answers = new int[6];
    private int cooked;
    private int warned;
    private int depthOfBook;
    private int pansOfBook;
    private int recipesOfBook;
    private List<String> book;

    public static void main(String[] args) {
        ModelTest test = new ModelTest();
        for (int i = 0; i < OBJECTS; i++) {
            test.object(i);
        }
        System.out.println("teach answered 0 to 5: " + Arrays.toString(test.answers) + ", cooked " + test.cooked
            + ", warned " + test.warned);
        for (int answer : test.answers) {
            Check.due("each answer of teach is seen", answer > 0 ? 1 : 0, 1);
        }
        Check.done();
    }

    private int below(int bound) {
        seed = seed * 6364136223846793005L + 1442695040888963407L;
        return (int) ((seed >>> 33) % bound);
    }

    private boolean oneIn(int many) {
        return below(many) == 0;
    }

    // ---- books

    private void add(String... tokens) {
        book.addAll(Arrays.asList(tokens));
    }

    private String pan() {
        return oneIn(400) || pansOfBook == 0 ? "zzz" : PANS[below(pansOfBook)];
    }

    private void makeBook() {
        book = new ArrayList<>();
        pansOfBook = oneIn(25) ? below(11) : 1 + below(4);
        int recipes = oneIn(25) ? below(9) : 1 + below(4);
        int acts = oneIn(8) ? 25 : 9;
        boolean badlyHeld = oneIn(40);
        for (int i = 0; i < pansOfBook; i++) {
            add("pan", PANS[oneIn(100) ? 0 : i], "holds", "" + (badlyHeld ? below(400) : 1 + below(oneIn(3) ? 200 : 60)), ";");
        }
        pansOfBook = Math.min(pansOfBook, PANS.length);
        for (recipesOfBook = 0; recipesOfBook < recipes; recipesOfBook++) {
            add("recipe", oneIn(100) ? PANS[0] : RECIPES[Math.min(recipesOfBook, RECIPES.length - 1)]);
            block(0, 1 + below(acts));
        }
    }

    private void block(int around, int acts) {
        add("(");
        for (int i = 0; i < acts && book.size() < 420; i++) {
            act(around);
        }
        add(")");
    }

    private void act(int around) {
        int kind = below(21);
        if (kind < 4) {
            add("pour");
            amount();
            add(oneIn(2) ? "water" : "meal", "into", pan(), ";");
        } else if (kind < 8) {
            add("heat", pan(), "to");
            if (oneIn(2)) {
                add("boiling");
            } else {
                value(0);
            }
            add(";");
        } else if (kind < 11) {
            add("boil", pan(), "for");
            amount();
            add(";");
        } else if (kind < 12) {
            add("empty", pan(), ";");
        } else if (kind < 14) {
            add("rest");
            value(0);
            add(";");
        } else if (kind < 16) {
            add("note");
            value(0);
            add(";");
        } else if (kind < 17) {
            if (recipesOfBook > 0 || oneIn(50)) {
                add("cook", RECIPES[below(Math.min(RECIPES.length, oneIn(60) ? recipesOfBook + 1 : Math.max(1, recipesOfBook)))], ";");
            }
        } else if (around < 5 || oneIn(10)) {
            deeper(kind < 19, around);
        }
    }

    private void deeper(boolean again, int around) {
        if (again) {
            add("again");
            amount();
            block(around + 1, below(5));
            return;
        }
        add("if");
        compare();
        while (oneIn(3)) {
            add("and");
            compare();
        }
        block(around + 1, below(4));
        if (oneIn(2)) {
            add("else");
            block(around + 1, below(4));
        }
    }

    private void compare() {
        value(0);
        add(new String[] {"<", ">", "="}[below(3)]);
        value(0);
    }

    private void amount() {
        if (oneIn(4)) {
            value(0);
        } else {
            add("" + below(oneIn(5) ? 300 : 30));
        }
    }

    private void value(int around) {
        int kind = below(10);
        if (kind < 4 && (around < 4 || oneIn(30))) {
            add("(");
            value(around + 1);
            add(new String[] {"+", "-", "*", "/"}[below(4)]);
            value(around + 1);
            add(")");
        } else if (kind < 6) {
            add(new String[] {"altitude", "boiling", "minute", "servings", "spoon"}[below(5)]);
        } else if (kind < 8) {
            add(new String[] {"water", "meal", "heat", "done", "room"}[below(5)], "of", pan());
        } else {
            add("" + below(oneIn(3) ? 1000 : 100));
        }
    }

    private void spoil() {
        for (int i = 1 + below(2); i > 0 && !book.isEmpty(); i--) {
            int place = below(book.size());
            switch (below(5)) {
                case 0:
                    book.remove(place);
                    break;
                case 1:
                    book.add(place, book.get(below(book.size())));
                    break;
                case 2:
                    book.set(place, ODD[below(ODD.length)]);
                    break;
                case 3:
                    book.add(place, ODD[below(ODD.length)]);
                    break;
                default:
                    book = new ArrayList<>(book.subList(0, place));
                    break;
            }
        }
    }

    private byte[] written() {
        StringBuilder text = new StringBuilder();
        boolean wide = oneIn(5);
        String ahead = " ";
        for (String token : book) {
            boolean words = Character.isLetter(ahead.charAt(0)) && Character.isLetter(token.charAt(0));
            boolean numbers = Character.isDigit(ahead.charAt(0)) && Character.isDigit(token.charAt(0));
            if (words || numbers ? !oneIn(500) : wide || oneIn(20)) {
                text.append(oneIn(7) ? '\n' : ' ');
            }
            text.append(token);
            ahead = token;
        }
        if (oneIn(3)) {
            text.append(" \n ");
        }
        text.setLength(Math.min(1600, text.length()));
        byte[] bytes = text.toString().getBytes(StandardCharsets.ISO_8859_1);
        if (oneIn(25) && bytes.length > 0) {
            bytes[below(bytes.length)] = (byte) below(256);
        }
        return bytes;
    }

    // ---- calls

    private void object(int number) {
        HighRecipes x = new HighRecipes();
        Model model = new Model();
        int calls = 0;
        for (int round = 0; round < 4 && calls < 300; round++) {
            makeBook();
            if (oneIn(3)) {
                spoil();
            }
            byte[] tape = written();
            Check.type(x, tape);
            calls += tape.length / 20 + 2;
            int want = model.teach(tape);
            String what = "object " + number + ", book " + new String(tape, StandardCharsets.ISO_8859_1);
            Check.due(what + ": teach", x.teach(), want);
            Check.due(what + ": errorAt", x.errorAt(), model.errorAt);
            answers[want]++;
            for (int i = below(60); i > 0; i--) {
                call(what, x, model);
                calls++;
            }
            Check.due(what + ": digest", x.digest(), model.digest());
        }
    }

    private int some(int most) {
        int[] edges = {-1, 0, 1, most - 1, most, most + 1, Integer.MAX_VALUE, Integer.MIN_VALUE};
        return oneIn(3) ? edges[below(oneIn(5) ? 8 : 6)] : below(most + 1);
    }

    private static boolean within(int number, int least, int most) {
        return number >= least && number <= most;
    }

    /** A call that has to throw if it is not right, and otherwise to answer as the model does. */
    private void same(String what, boolean right, boolean index, Check.Call got, Check.Call want) {
        if (right) {
            Check.due(what, got.answer(), want.answer());
        } else if (index) {
            Check.index(what, got);
        } else {
            Check.argument(what, got);
        }
    }

    private void call(String book, HighRecipes x, Model model) {
        String what = book + ": ";
        switch (below(8)) {
            case 0:
                setting(what, x, model);
                break;
            case 1:
                byHand(what, x, model);
                break;
            case 2:
            case 3:
                cooking(what, x, model);
                break;
            case 4:
                looks(what, x, model);
                break;
            case 5:
                histories(what, x, model);
                break;
            default:
                wouldBe(what, x, model);
                break;
        }
    }

    private void setting(String what, HighRecipes x, Model model) {
        int altitude = some(60);
        int servings = some(12);
        int spoon = some(10);
        switch (below(3)) {
            case 0:
                int before = model.altitude;
                same(what + "setAltitude " + altitude, within(altitude, 0, 60), false, () -> x.setAltitude(altitude), () -> {
                    model.setAltitude(altitude);
                    return before;
                });
                break;
            case 1:
                int servingsBefore = model.servings;
                same(what + "setServings " + servings, within(servings, 1, 12), false, () -> x.setServings(servings), () -> {
                    model.servings = servings;
                    return servingsBefore;
                });
                break;
            default:
                int spoonBefore = model.spoon;
                same(what + "setSpoon " + spoon, within(spoon, 1, 10), false, () -> x.setSpoon(spoon), () -> {
                    model.spoon = spoon;
                    return spoonBefore;
                });
                break;
        }
    }

    private void byHand(String what, HighRecipes x, Model model) {
        int pan = some(model.pans.size());
        int spoons = oneIn(2) ? 1 + below(20) : some(200);
        int minutes = oneIn(2) ? 1 + below(60) : some(600);
        boolean isPan = within(pan, 0, model.pans.size() - 1);
        switch (below(4)) {
            case 0:
                same(what + "pourWater " + pan + " " + spoons, isPan && within(spoons, 1, 200), !isPan,
                    () -> x.pourWater(pan, spoons), () -> model.pour(pan, spoons, false));
                break;
            case 1:
                same(what + "pourMeal " + pan + " " + spoons, isPan && within(spoons, 1, 200), !isPan,
                    () -> x.pourMeal(pan, spoons), () -> model.pour(pan, spoons, true));
                break;
            case 2:
                same(what + "wash " + pan, isPan, true, () -> x.wash(pan), () -> model.wash(pan));
                break;
            default:
                same(what + "rest " + minutes, within(minutes, 1, 600), false, () -> x.rest(minutes), () -> {
                    model.pass(minutes, -1);
                    return model.pans.stream().filter(row -> row[3] > 20).count();
                });
                break;
        }
    }

    private void cooking(String what, HighRecipes x, Model model) {
        int recipe = oneIn(4) ? some(model.blocks.size()) : below(Math.max(1, model.blocks.size()));
        int before = model.warnings.size();
        boolean isRecipe = within(recipe, 0, model.blocks.size() - 1);
        same(what + "cook " + recipe, isRecipe, true, () -> x.cook(recipe), () -> model.cook(recipe));
        cooked += isRecipe ? 1 : 0;
        warned += model.warnings.size() > before ? 1 : 0;
        Check.due(what + "digest behind cook " + recipe, x.digest(), model.digest());
    }

    private void looks(String what, HighRecipes x, Model model) {
        int pan = oneIn(2) ? some(model.pans.size()) : below(Math.max(1, model.pans.size()));
        boolean isPan = within(pan, 0, model.pans.size() - 1);
        int[] row = isPan ? model.pans.get(pan) : new int[5];
        same(what + "holdsOf " + pan, isPan, true, () -> x.holdsOf(pan), () -> row[0]);
        same(what + "waterIn " + pan, isPan, true, () -> x.waterIn(pan), () -> row[1]);
        same(what + "mealIn " + pan, isPan, true, () -> x.mealIn(pan), () -> row[2]);
        same(what + "heatOf " + pan, isPan, true, () -> x.heatOf(pan), () -> row[3]);
        same(what + "doneIn " + pan, isPan, true, () -> x.doneIn(pan), () -> row[4]);
        same(what + "roomIn " + pan, isPan, true, () -> x.roomIn(pan), () -> row[0] - row[1] - row[2]);
        Check.due(what + "meanHeat", x.meanHeat(), model.meanHeat());
        Check.due(what + "pans", x.pans(), model.pans.size());
        Check.due(what + "recipes", x.recipes(), model.blocks.size());
        Check.due(what + "acts", x.acts(), model.acts);
        Check.due(what + "altitude", x.altitude(), model.altitude);
        Check.due(what + "boilingPoint", x.boilingPoint(), Model.boilingAt(model.altitude));
        Check.due(what + "servings", x.servings(), model.servings);
        Check.due(what + "spoon", x.spoon(), model.spoon);
        Check.due(what + "minute", x.minute(), model.minute);
        int told = some(999);
        int altitude = some(60);
        same(what + "amountFor " + told, within(told, 0, 999), false, () -> x.amountFor(told), () -> model.amountFor(told));
        same(what + "boilingAt " + altitude, within(altitude, 0, 60), false, () -> x.boilingAt(altitude), () -> Model.boilingAt(altitude));
        same(what + "minutesAt " + told + " " + altitude, within(told, 0, 999) && within(altitude, 0, 60), false,
            () -> x.minutesAt(told, altitude), () -> Model.minutesAt(told, altitude));
    }

    private void histories(String what, HighRecipes x, Model model) {
        int back = some(20);
        int kind = some(5);
        Check.due(what + "warnings", x.warnings(), model.warnings.size());
        Check.due(what + "notes", x.notes(), model.notes.size());
        same(what + "warningsOf " + kind, within(kind, 1, 5), false, () -> x.warningsOf(kind), () -> model.countOf(kind));
        same(what + "warningAt " + back, within(back, 0, 19) && back < model.warnings.size(), true,
            () -> x.warningAt(back), () -> model.warnings.get(model.warnings.size() - 1 - back));
        same(what + "noteAt " + back, within(back, 0, 19) && back < model.notes.size(), true,
            () -> x.noteAt(back), () -> model.notes.get(model.notes.size() - 1 - back));
    }

    private void wouldBe(String what, HighRecipes x, Model model) {
        int recipe = oneIn(4) ? some(model.blocks.size()) : below(Math.max(1, model.blocks.size()));
        int pan = oneIn(4) ? some(model.pans.size()) : below(Math.max(1, model.pans.size()));
        boolean isRecipe = within(recipe, 0, model.blocks.size() - 1);
        boolean isPan = within(pan, 0, model.pans.size() - 1);
        Model then = model.copy();
        int minutes = isRecipe ? then.cook(recipe) : 0;
        same(what + "minutesOfRecipe " + recipe, isRecipe, true, () -> x.minutesOfRecipe(recipe), () -> minutes);
        same(what + "warningsOfRecipe " + recipe, isRecipe, true, () -> x.warningsOfRecipe(recipe), () -> then.warnings.size());
        same(what + "firstWarning " + recipe, isRecipe, true, () -> x.firstWarning(recipe), () -> then.firstWarning);
        same(what + "doneBehind " + recipe + " " + pan, isRecipe && isPan, true,
            () -> x.doneBehind(recipe, pan), () -> then.pans.get(pan)[4]);
        same(what + "highestSafe " + recipe, isRecipe, true, () -> x.highestSafe(recipe), () -> model.highestSafe(recipe));
        same(what + "mostServings " + recipe, isRecipe, true, () -> x.mostServings(recipe), () -> model.mostServings(recipe));
    }
}
