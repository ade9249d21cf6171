/** Promises 36 to 41 and 43: what would be, and the checksum. */
public final class WouldBeTest {
    public static void main(String[] args) {
        wrongNumbers();
        nothingIsChanged();
        fromNowOn();
        firstWarning();
        doneBehind();
        highestSafe();
        highestSafeOfHotPans();
        mostServings();
        digest();
        Check.done();
    }

    private static void wrongNumbers() {
        HighRecipes x = Check.with("pan a holds 9; pan b holds 9; recipe r (rest 5;) recipe s () recipe t ()");
        int[] none = {-1, 3, 6, Integer.MAX_VALUE, Integer.MIN_VALUE};
        for (int recipe : none) {
            Check.index("minutesOfRecipe " + recipe, () -> x.minutesOfRecipe(recipe));
            Check.index("warningsOfRecipe " + recipe, () -> x.warningsOfRecipe(recipe));
            Check.index("firstWarning " + recipe, () -> x.firstWarning(recipe));
            Check.index("doneBehind " + recipe, () -> x.doneBehind(recipe, 0));
            Check.index("doneBehind of both " + recipe, () -> x.doneBehind(recipe, -1));
            Check.index("highestSafe " + recipe, () -> x.highestSafe(recipe));
            Check.index("mostServings " + recipe, () -> x.mostServings(recipe));
        }
        Check.index("doneBehind(2, 2)", () -> x.doneBehind(2, 2));
        Check.index("doneBehind(2, -1)", () -> x.doneBehind(2, -1));
        Check.index("doneBehind(0, 8)", () -> x.doneBehind(0, 8));
        Check.due("a recipe without acts: minutes", x.minutesOfRecipe(1), 0);
        Check.due("a recipe without acts: warnings", x.warningsOfRecipe(1), 0);
        Check.due("a recipe without acts: firstWarning", x.firstWarning(1), -1);
        Check.due("a recipe without acts: doneBehind", x.doneBehind(1, 1), 0);
        Check.due("a recipe without acts: highestSafe", x.highestSafe(1), 60);
        Check.due("a recipe without acts: mostServings", x.mostServings(1), 12);
    }

    private static final String STEW = "pan a holds 60; pan b holds 9; recipe r (pour 30 water into a; pour 6 meal into a;"
        + "heat a to 99; boil a for 20; heat b to 50; note minute; pour 20 water into b;)";

    private static void nothingIsChanged() {
        HighRecipes x = Check.with(STEW);
        for (int i = 0; i < 2; i++) {
            long before = x.digest();
            x.minutesOfRecipe(0);
            x.warningsOfRecipe(0);
            x.firstWarning(0);
            x.doneBehind(0, 0);
            x.highestSafe(0);
            x.mostServings(0);
            Check.due("nothing is changed", x.digest(), before);
            x.setAltitude(20);
            x.setServings(3);
            x.cook(0);
        }
    }

    /** Each of two times, what would be is as it is then; also with what is in the pans ahead of it. */
    private static void fromNowOn() {
        HighRecipes x = Check.with(STEW);
        for (int i = 0; i < 4; i++) {
            int minutes = x.minutesOfRecipe(0);
            int warnings = x.warningsOfRecipe(0);
            int done = x.doneBehind(0, 0);
            int before = x.warnings();
            Check.due("minutes as told, time " + i, x.cook(0), minutes);
            Check.due("warnings as told, time " + i, x.warnings() - before, warnings);
            Check.due("done as told, time " + i, x.doneIn(0), done);
            x.setAltitude(15 * i);
            x.setServings(4 + i);
        }
        HighRecipes z = Check.with("pan a holds 9; recipe r (rest minute; pour 5 water into a;)");
        z.rest(13);
        Check.due("minutes from minute 13 on", z.minutesOfRecipe(0), 14);
        Check.due("warnings for 4", z.warningsOfRecipe(0), 0);
        z.setServings(8);
        Check.due("warnings for 8", z.warningsOfRecipe(0), 1);
        Check.due("firstWarning for 8", z.firstWarning(0), 2);
        z.setServings(7);
        Check.due("warnings for 7", z.warningsOfRecipe(0), 0);
        z.setSpoon(10);
        Check.due("warnings by spoonfuls of 10", z.warningsOfRecipe(0), 1);
        HighRecipes y = Check.with(STEW);
        Check.due("minutes at 0", y.minutesOfRecipe(0), 1 + 1 + 8 + 1);
        Check.due("warnings at 0", y.warningsOfRecipe(0), 3);
        y.setAltitude(3);
        Check.due("minutes at 3", y.minutesOfRecipe(0), 1 + 1 + 8 + 21 + 1);
        Check.due("warnings at 3", y.warningsOfRecipe(0), 2);
    }

    private static int firstOf(String book) {
        HighRecipes x = Check.with("pan a holds 9; " + book);
        return x.firstWarning(x.recipes() - 1);
    }

    private static void firstWarning() {
        Check.due("none", firstOf("recipe r (rest 1; pour 9 water into a; heat a to 100;)"), -1);
        Check.due("the first act", firstOf("recipe r (heat a to 5; heat a to 5;)"), 1);
        Check.due("the third act", firstOf("recipe r (rest 1; note 1; boil a for 5; heat a to 5;)"), 3);
        Check.due("acts in blocks", firstOf("recipe r (again 2 (rest 1;) again 2 (if 1=1 (pour 6 water into a;) rest 1;) heat a to 5;)"), 9);
        Check.due("acts not done have no number", firstOf("recipe r (again 0 (rest 1;) if 1=2 (rest 1; rest 1;) heat a to 5;)"), 3);
        Check.due("acts of another recipe", firstOf("recipe q (rest 1; heat a to 1;) recipe r (rest 1; cook q;)"), 4);
        Check.due("the 100th", firstOf("recipe r (again 98 (rest 1;) heat a to 1; heat a to 1;)"), 100);
        Check.due("the 101st", firstOf("recipe r (again 99 (rest 1;) heat a to 1; heat a to 1;)"), -1);
        HighRecipes x = Check.with("pan a holds 9; recipe r (rest 1; heat a to 50;)");
        x.cook(0);
        x.cook(0);
        Check.due("counted from this cooking on", x.firstWarning(0), 2);
        x.pourMeal(0, 1);
        Check.due("as it is now", x.firstWarning(0), -1);
    }

    private static void doneBehind() {
        HighRecipes x = Check.with("pan a holds 60; pan b holds 60; recipe r (pour 30 water into b; pour 6 meal into b;"
            + "heat b to boiling; boil b for 20;)");
        Check.due("done of the other", x.doneBehind(0, 0), 0);
        Check.due("done of b", x.doneBehind(0, 1), 20);
        x.setAltitude(60);
        Check.due("done of b at 60", x.doneBehind(0, 1), 20);
        x.cook(0);
        Check.due("done of b behind it", x.doneIn(1), 20);
        // 22 of 30 spoons of water are left, 30 more get in, and 2 more of meal: 20 * 6 / 8, and 20 more
        Check.due("done of b behind two", x.doneBehind(0, 1), 35);
    }

    private static int highest(String acts) {
        return Check.with("pan a holds 100; recipe r (" + acts + ")").highestSafe(0);
    }

    private static void highestSafe() {
        Check.due("always", highest("rest 1;"), 60);
        Check.due("never", highest("heat a to 5;"), -1);
        Check.due("to 100", highest("pour 5 water into a; heat a to 100;"), 2);
        Check.due("to 99", highest("pour 5 water into a; heat a to 99;"), 5);
        Check.due("to 80", highest("pour 5 water into a; heat a to 80;"), 60);
        Check.due("to 101", highest("pour 5 water into a; heat a to 101;"), -1);
        Check.due("5 spoons last 25 minutes", highest("pour 5 water into a; heat a to boiling; boil a for 20;"), 17);
        Check.due("at one altitude alone", highest("if altitude=7 () else (heat a to 5;)"), 7);
        Check.due("not at the altitudes between", highest("if altitude>3 and altitude<60 (heat a to 5;)"), 60);
        Check.due("at 0 alone", highest("if altitude>0 (heat a to 5;)"), 0);
        HighRecipes x = Check.with("pan a holds 100; recipe r (heat a to 95;)");
        x.pourWater(0, 9);
        x.setAltitude(60);
        Check.due("lower than now", x.highestSafe(0), 17);
        Check.due("altitude stays", x.altitude(), 60);
    }

    private static void highestSafeOfHotPans() {
        HighRecipes x = Check.with("pan a holds 100; recipe h (heat a to 100;) recipe r (if heat of a>85 (boil a for 999;))");
        x.pourWater(0, 9);
        x.cook(0);
        // the pan is no hotter than 85 if the kitchen is set to 45 or higher
        Check.due("pans cool as the kitchen is set there", x.highestSafe(1), 60);
        HighRecipes y = Check.with("pan a holds 100; recipe h (heat a to 100;) recipe r (if heat of a<90 (boil a for 999;))");
        y.pourWater(0, 9);
        y.cook(0);
        Check.due("too cool above", y.highestSafe(1), 32);
    }

    private static int most(String acts) {
        return Check.with("pan a holds 20; recipe r (" + acts + ")").mostServings(0);
    }

    private static void mostServings() {
        Check.due("always", most("rest 1;"), 12);
        Check.due("other kinds do not count", most("heat a to 5; boil a for 5;"), 12);
        Check.due("8 of 20", most("pour 8 water into a;"), 10);
        Check.due("10 of 20", most("pour 5 water into a; pour 5 meal into a;"), 8);
        Check.due("7 of 20", most("pour 7 water into a;"), 11);
        Check.due("80 of 20", most("pour 80 water into a;"), 1);
        Check.due("83 of 20", most("pour 83 water into a;"), -1);
        Check.due("for 5 alone", most("if servings=5 () else (pour 999 water into a;)"), 5);
        Check.due("not for those between", most("if servings>3 and servings<12 (pour 999 water into a;)"), 12);
        HighRecipes x = Check.with("pan a holds 20; recipe r (pour 6 water into a;)");
        Check.due("from an empty pan", x.mostServings(0), 12);
        x.pourMeal(0, 5);
        Check.due("from what is in it", x.mostServings(0), 10);
        x.setSpoon(10);
        // for 10 it is 15, so 20; for 9 it is 13.5, so 10
        Check.due("by spoonfuls of 10", x.mostServings(0), 9);
        Check.due("servings stay", x.servings(), 4);
    }

    private static long sum(long... numbers) {
        long d = 1913;
        for (long x : numbers) {
            d = d * 31 + x;
        }
        return d;
    }

    private static void digest() {
        HighRecipes x = new HighRecipes();
        Check.due("digest of a new object", x.digest(), sum(0, 0, 0, 0, 4, 1, 0, 0, 0, 0, 0, 0, 0, 0));
        Check.teach(x, "pan a holds 60; pan b holds 9; recipe r (note (0-5); heat b to 5; note 7;"
            + "pour 20 meal into b; boil a for 1; again 30 (note 8;))");
        Check.due("digest of a book", x.digest(), sum(2, 1, 7, 0, 4, 1, 0, 0, 0, 0, 0, 0, 0, 0, 60, 0, 0, 20, 0, 9, 0, 0, 20, 0));
        x.setAltitude(33);
        x.setServings(5);
        x.setSpoon(2);
        x.pourWater(0, 11);
        x.rest(9);
        Check.due("digest of a set kitchen", x.digest(),
            sum(2, 1, 7, 33, 5, 2, 9, 0, 0, 0, 0, 0, 0, 0, 60, 11, 0, 20, 0, 9, 0, 0, 20, 0));
        HighRecipes y = Check.with("pan a holds 9; recipe r (note (0-5); heat a to 5; pour 99 meal into a; note 7; boil a for 1;)");
        y.cook(0);
        Check.due("digest of few warnings and notes", y.digest(),
            sum(1, 1, 5, 0, 4, 1, 1, 3, 2, 1, 0, 1, 1, 0, 9, 0, 9, 20, 0, 4, 1, 3, 7, -5));
        x.cook(0);
        long[] notes = new long[20];
        java.util.Arrays.fill(notes, 8);
        long d = sum(2, 1, 7, 33, 5, 2, 10, 3, 32, 1, 0, 1, 1, 0, 60, 11, 0, 20, 0, 9, 0, 9, 20, 0, 4, 1, 3);
        for (long note : notes) {
            d = d * 31 + note;
        }
        Check.due("digest of many notes", x.digest(), d);
    }
}
