/** Promises 1, 9 to 34 and 42: the kitchen, its pans, translations, and what is done by hand. */
public final class KitchenTest {
    public static void main(String[] args) {
        newObject();
        boiling();
        minutes();
        amounts();
        settings();
        noSuchPan();
        pouring();
        doneness();
        washing();
        resting();
        moving();
        histories();
        meanHeat();
        Check.done();
    }

    private static void newObject() {
        HighRecipes x = new HighRecipes();
        Check.due("new: pans", x.pans(), 0);
        Check.due("new: recipes", x.recipes(), 0);
        Check.due("new: acts", x.acts(), 0);
        Check.due("new: altitude", x.altitude(), 0);
        Check.due("new: boilingPoint", x.boilingPoint(), 100);
        Check.due("new: servings", x.servings(), 4);
        Check.due("new: spoon", x.spoon(), 1);
        Check.due("new: minute", x.minute(), 0);
        Check.due("new: warnings", x.warnings(), 0);
        Check.due("new: notes", x.notes(), 0);
        for (int kind = 1; kind <= 5; kind++) {
            Check.due("new: warningsOf " + kind, x.warningsOf(kind), 0);
        }
        Check.due("new: meanHeat", x.meanHeat(), 0.0);
        Check.index("new: warningAt", () -> x.warningAt(0));
        Check.index("new: noteAt", () -> x.noteAt(0));
        Check.index("new: cook", () -> x.cook(0));
        Check.index("new: heatOf", () -> x.heatOf(0));
    }

    private static void boiling() {
        HighRecipes x = new HighRecipes();
        int[][] known = {{0, 100}, {1, 100}, {2, 100}, {3, 99}, {5, 99}, {6, 98}, {29, 91}, {30, 90}, {59, 81}, {60, 80}};
        for (int[] row : known) {
            Check.due("boilingAt " + row[0], x.boilingAt(row[0]), row[1]);
            x.setAltitude(row[0]);
            Check.due("boilingPoint at " + row[0], x.boilingPoint(), row[1]);
        }
        Check.argument("boilingAt(-1)", () -> x.boilingAt(-1));
        Check.argument("boilingAt(61)", () -> x.boilingAt(61));
        Check.argument("boilingAt(least)", () -> x.boilingAt(Integer.MIN_VALUE));
    }

    private static void minutes() {
        HighRecipes x = new HighRecipes();
        int[][] known = {{0, 60, 0}, {1, 0, 1}, {1, 2, 1}, {1, 3, 2}, {20, 3, 21}, {21, 3, 23}, {12, 30, 18}, {7, 30, 11},
            {999, 60, 1998}, {999, 0, 999}, {10, 59, 20}, {100, 59, 195}};
        for (int[] row : known) {
            Check.due("minutesAt " + row[0] + ", " + row[1], x.minutesAt(row[0], row[1]), row[2]);
        }
        Check.argument("minutesAt(-1, 0)", () -> x.minutesAt(-1, 0));
        Check.argument("minutesAt(1000, 0)", () -> x.minutesAt(1000, 0));
        Check.argument("minutesAt(0, -1)", () -> x.minutesAt(0, -1));
        Check.argument("minutesAt(0, 61)", () -> x.minutesAt(0, 61));
    }

    private static void amounts() {
        HighRecipes x = new HighRecipes();
        // servings, spoon, told, translated
        int[][] known = {
            {4, 1, 0, 0}, {4, 1, 999, 999}, {12, 10, 999, 3000}, {12, 1, 999, 2997},
            {1, 1, 1, 0}, {1, 1, 2, 1}, {1, 1, 5, 1}, {1, 1, 6, 2}, {3, 1, 1, 1}, {3, 1, 2, 2}, {3, 1, 3, 2},
            {4, 2, 1, 2}, {4, 2, 2, 2}, {4, 2, 3, 4}, {4, 3, 1, 0}, {4, 3, 2, 3}, {4, 3, 4, 3}, {4, 3, 5, 6},
            {4, 10, 4, 0}, {4, 10, 5, 10}, {4, 10, 14, 10}, {4, 10, 15, 20}, {5, 10, 4, 10}, {3, 10, 6, 0}, {3, 10, 7, 10},
        };
        for (int[] row : known) {
            x.setServings(row[0]);
            x.setSpoon(row[1]);
            Check.due("amountFor " + row[2] + " for " + row[0] + " by " + row[1], x.amountFor(row[2]), row[3]);
        }
        Check.argument("amountFor(-1)", () -> x.amountFor(-1));
        Check.argument("amountFor(1000)", () -> x.amountFor(1000));
    }

    private static void settings() {
        HighRecipes x = new HighRecipes();
        Check.due("setAltitude(60)", x.setAltitude(60), 0);
        Check.due("setAltitude(0)", x.setAltitude(0), 60);
        x.setAltitude(9);
        Check.due("altitude", x.altitude(), 9);
        Check.due("setServings(12)", x.setServings(12), 4);
        Check.due("setServings(1)", x.setServings(1), 12);
        Check.due("servings", x.servings(), 1);
        Check.due("setSpoon(10)", x.setSpoon(10), 1);
        Check.due("setSpoon(1)", x.setSpoon(1), 10);
        x.setSpoon(7);
        Check.due("spoon", x.spoon(), 7);
        long before = x.digest();
        Check.argument("setAltitude(-1)", () -> x.setAltitude(-1));
        Check.argument("setAltitude(61)", () -> x.setAltitude(61));
        Check.argument("setServings(0)", () -> x.setServings(0));
        Check.argument("setServings(13)", () -> x.setServings(13));
        Check.argument("setSpoon(0)", () -> x.setSpoon(0));
        Check.argument("setSpoon(11)", () -> x.setSpoon(11));
        Check.due("nothing is changed", x.digest(), before);
    }

    private static void noSuchPan() {
        HighRecipes x = Check.with("pan a holds 20; pan b holds 30;");
        int[] none = {-1, 2, 7, 8, Integer.MAX_VALUE, Integer.MIN_VALUE};
        for (int pan : none) {
            Check.index("holdsOf " + pan, () -> x.holdsOf(pan));
            Check.index("waterIn " + pan, () -> x.waterIn(pan));
            Check.index("mealIn " + pan, () -> x.mealIn(pan));
            Check.index("heatOf " + pan, () -> x.heatOf(pan));
            Check.index("doneIn " + pan, () -> x.doneIn(pan));
            Check.index("roomIn " + pan, () -> x.roomIn(pan));
            Check.index("wash " + pan, () -> x.wash(pan));
            Check.index("pourWater " + pan, () -> x.pourWater(pan, 1));
            Check.index("pourMeal " + pan, () -> x.pourMeal(pan, 1));
            Check.index("pourWater first of its two", () -> x.pourWater(pan, 0));
            Check.index("pourMeal first of its two", () -> x.pourMeal(pan, 201));
        }
        Check.due("holdsOf(0)", x.holdsOf(0), 20);
        Check.due("holdsOf(1)", x.holdsOf(1), 30);
        Check.due("roomIn(1)", x.roomIn(1), 30);
        Check.due("heatOf(1)", x.heatOf(1), 20);
        Check.argument("pourWater(1, 0)", () -> x.pourWater(1, 0));
        Check.argument("pourWater(1, 201)", () -> x.pourWater(1, 201));
        Check.argument("pourMeal(1, -1)", () -> x.pourMeal(1, -1));
        Check.argument("pourMeal(1, 201)", () -> x.pourMeal(1, 201));
    }

    private static void pouring() {
        HighRecipes x = Check.with("pan a holds 20; pan b holds 200; recipe r (heat a to 100; heat b to 95;)");
        x.setServings(12);
        x.setSpoon(10);
        Check.due("pourWater(0, 7)", x.pourWater(0, 7), 7);
        Check.due("pourMeal(1, 200)", x.pourMeal(1, 200), 200);
        Check.due("waterIn(0)", x.waterIn(0), 7);
        Check.due("mealIn(0)", x.mealIn(0), 0);
        Check.due("roomIn(0)", x.roomIn(0), 13);
        Check.due("no time goes by", x.minute(), 0);
        x.cook(0);
        int minute = x.minute();
        Check.due("heated a", x.heatOf(0), 96);
        Check.due("pourMeal(0, 4)", x.pourMeal(0, 4), 4);
        Check.due("mixed heat", x.heatOf(0), (96 * 7 + 20 * 4) / 11);
        Check.due("mixed water", x.waterIn(0), 7);
        Check.due("mixed meal", x.mealIn(0), 4);
        Check.due("overflow by hand", x.pourWater(0, 200), 9);
        Check.due("heat counts what gets in", x.heatOf(0), (68 * 11 + 20 * 9) / 20);
        Check.due("full", x.pourMeal(0, 1), 0);
        Check.due("heat stays with nothing more", x.heatOf(0), (68 * 11 + 20 * 9) / 20);
        Check.due("no warning by hand", x.warnings(), 0);
        Check.due("no time by hand", x.minute(), minute);
    }

    private static void doneness() {
        HighRecipes x = Check.with("pan a holds 100; recipe r (heat a to 100; boil a for 50;)");
        x.pourWater(0, 20);
        x.pourMeal(0, 10);
        x.cook(0);
        Check.due("done", x.doneIn(0), 50);
        x.pourWater(0, 5);
        Check.due("water does not undo", x.doneIn(0), 50);
        x.pourMeal(0, 7);
        Check.due("meal undoes", x.doneIn(0), 50 * 10 / 17);
        x.pourMeal(0, 200);
        int meal = x.mealIn(0);
        Check.due("meal that gets in", meal, 85);
        Check.due("meal undoes by what gets in", x.doneIn(0), 29 * 17 / 85);
    }

    private static void washing() {
        HighRecipes x = Check.with("pan a holds 100; pan b holds 9; recipe r (heat a to 90; heat a to 100; boil a for 50;)");
        x.pourWater(0, 20);
        x.pourMeal(0, 10);
        x.pourMeal(1, 3);
        x.cook(0);
        int minute = x.minute();
        Check.due("wash", x.wash(0), 20);
        Check.due("washed: water", x.waterIn(0), 0);
        Check.due("washed: meal", x.mealIn(0), 0);
        Check.due("washed: heat", x.heatOf(0), 20);
        Check.due("washed: done", x.doneIn(0), 0);
        Check.due("washed: room", x.roomIn(0), 100);
        Check.due("washed in no time", x.minute(), minute);
        Check.due("the other is as it was", x.mealIn(1), 3);
        Check.due("wash again", x.wash(0), 0);
    }

    private static void resting() {
        HighRecipes x = Check.with("pan a holds 10; pan b holds 10; recipe r (heat a to 25; heat b to 100;)");
        x.pourWater(0, 5);
        x.pourMeal(1, 5);
        x.cook(0);
        Check.due("a cooled while b was heated", x.heatOf(0), 21);
        Check.due("rest(1) cools by nothing", x.rest(1), 2);
        Check.due("a behind 1", x.heatOf(0), 21);
        Check.due("rest(5)", x.rest(5), 1);
        Check.due("a not below 20", x.heatOf(0), 20);
        Check.due("b behind 5", x.heatOf(1), 98);
        Check.due("rest(155)", x.rest(155), 1);
        Check.due("b behind 155", x.heatOf(1), 21);
        Check.due("rest(600)", x.rest(600), 0);
        Check.due("minute", x.minute(), 9 + 1 + 5 + 155 + 600);
        Check.argument("rest(0)", () -> x.rest(0));
        Check.argument("rest(601)", () -> x.rest(601));
        Check.argument("rest(-1)", () -> x.rest(-1));
        Check.due("no time in a failed rest", x.minute(), 770);
    }

    private static void moving() {
        HighRecipes x = Check.with("pan a holds 10; pan b holds 10; pan c holds 10; recipe r (heat a to 100; heat b to 100; heat c to 85;)");
        x.pourWater(0, 5);
        x.pourMeal(1, 5);
        x.pourWater(2, 1);
        x.cook(0);
        x.rest(1);
        Check.due("a", x.heatOf(0), 93);
        x.setAltitude(30);
        Check.due("water boils no hotter", x.heatOf(0), 90);
        Check.due("meal alone stays", x.heatOf(1), 97);
        Check.due("less hot water stays", x.heatOf(2), 85);
        x.setAltitude(60);
        Check.due("c at 60", x.heatOf(2), 80);
        x.setAltitude(0);
        Check.due("a does not come back", x.heatOf(0), 80);
        // water that is poured onto hotter meal can be too hot till the kitchen is set anew
        HighRecipes y = Check.with("pan a holds 200; recipe r (heat a to 100;)");
        y.pourMeal(0, 199);
        y.cook(0);
        y.setAltitude(60);
        y.pourWater(0, 1);
        Check.due("poured onto hot meal", y.heatOf(0), 99);
        y.setAltitude(60);
        Check.due("set to the same altitude", y.heatOf(0), 80);
    }

    private static void histories() {
        HighRecipes x = Check.with("pan a holds 1; recipe r (note minute; rest 1;) recipe w (heat a to 1; boil a for 1;)"
            + "recipe v (pour 2 water into a; heat a to 101; heat a to 100; boil a for 6; empty a;)");
        for (int i = 0; i < 19; i++) {
            x.cook(0);
        }
        Check.due("noteAt(18)", x.noteAt(18), 0);
        Check.index("noteAt(19) of 19", () -> x.noteAt(19));
        for (int i = 0; i < 6; i++) {
            x.cook(0);
        }
        Check.due("notes", x.notes(), 25);
        for (int back = 0; back < 20; back++) {
            Check.due("noteAt " + back, x.noteAt(back), 24 - back);
        }
        Check.index("noteAt(20)", () -> x.noteAt(20));
        Check.index("noteAt(-1)", () -> x.noteAt(-1));
        Check.index("noteAt(greatest)", () -> x.noteAt(Integer.MAX_VALUE));
        Check.index("noteAt(least)", () -> x.noteAt(Integer.MIN_VALUE));
        for (int i = 0; i < 12; i++) {
            x.cook(1);
        }
        x.cook(2);
        int[] latest = {5, 2, 1, 4, 3, 4, 3};
        for (int back = 0; back < latest.length; back++) {
            Check.due("warningAt " + back, x.warningAt(back), latest[back]);
        }
        Check.due("warnings", x.warnings(), 27);
        int[] of = {0, 1, 1, 12, 12, 1};
        for (int kind = 1; kind <= 5; kind++) {
            Check.due("warningsOf " + kind, x.warningsOf(kind), of[kind]);
        }
        Check.due("warningAt(19)", x.warningAt(19), 4);
        Check.index("warningAt(20)", () -> x.warningAt(20));
        Check.index("warningAt(-1)", () -> x.warningAt(-1));
        Check.index("warningAt(least)", () -> x.warningAt(Integer.MIN_VALUE));
        Check.argument("warningsOf(0)", () -> x.warningsOf(0));
        Check.argument("warningsOf(6)", () -> x.warningsOf(6));
        Check.argument("warningsOf(-1)", () -> x.warningsOf(-1));
    }

    private static void meanHeat() {
        HighRecipes x = Check.with("pan a holds 9; pan b holds 9; pan c holds 9; recipe r (heat b to 55;)");
        Check.due("mean of cold pans", x.meanHeat(), 20.0);
        x.pourMeal(1, 1);
        x.cook(0);
        Check.due("mean heat", x.meanHeat(), 95.0 / 3);
    }
}
