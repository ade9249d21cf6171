import java.math.BigInteger;

/** Promises 36 to 41 and 43, sentence by sentence: each bound from both sides, and that nothing is changed. */
public final class WouldBeBoundsTest {
    public static void main(String[] args) {
        recipesThatWouldBe();
        pansOfDoneBehind();
        nothingIsChanged();
        nothingOfTheTrialIsLeft();
        asTheKitchenIsNow();
        minutesOfRecipe();
        warningsOfRecipe();
        firstWarning();
        firstWarningInBlocks();
        doneBehind();
        highestSafe();
        highestSafeSetsTheKitchenThere();
        mostServings();
        mostServingsCountsKind1Alone();
        digestOfHistories();
        digestWrapsAround();
        Check.done();
    }

    private static HighRecipes sixRecipes() {
        return Check.with("pan a holds 9;pan b holds 8;pan c holds 7;pan d holds 6;pan e holds 5;pan f holds 4;pan g holds 3;pan h holds 2;"
            + "recipe ax() recipe bx() recipe cx() recipe dx() recipe ex() recipe fx()");
    }

    private static void noSuchRecipe(String what, Check.Maker maker, int recipe) {
        Check.indexRefused(what + " minutesOfRecipe " + recipe, maker, x -> x.minutesOfRecipe(recipe));
        Check.indexRefused(what + " warningsOfRecipe " + recipe, maker, x -> x.warningsOfRecipe(recipe));
        Check.indexRefused(what + " firstWarning " + recipe, maker, x -> x.firstWarning(recipe));
        Check.indexRefused(what + " doneBehind " + recipe, maker, x -> x.doneBehind(recipe, 0));
        Check.indexRefused(what + " highestSafe " + recipe, maker, x -> x.highestSafe(recipe));
        Check.indexRefused(what + " mostServings " + recipe, maker, x -> x.mostServings(recipe));
    }

    /** "if there is no such recipe" */
    private static void recipesThatWouldBe() {
        for (int recipe : new int[] {-1, 2, 3, 5, 6, Integer.MAX_VALUE, Integer.MIN_VALUE}) {
            noSuchRecipe("two recipes:", Check::busy, recipe);
        }
        noSuchRecipe("six recipes:", WouldBeBoundsTest::sixRecipes, -1);
        noSuchRecipe("six recipes:", WouldBeBoundsTest::sixRecipes, 6);
        noSuchRecipe("a new object:", HighRecipes::new, 0);
        HighRecipes x = sixRecipes();
        for (int recipe = 0; recipe < 6; recipe++) {
            Check.due("minutesOfRecipe " + recipe, x.minutesOfRecipe(recipe), 0);
            Check.due("warningsOfRecipe " + recipe, x.warningsOfRecipe(recipe), 0);
            Check.due("firstWarning " + recipe, x.firstWarning(recipe), -1);
            Check.due("doneBehind " + recipe, x.doneBehind(recipe, 7), 0);
            Check.due("highestSafe " + recipe, x.highestSafe(recipe), 60);
            Check.due("mostServings " + recipe, x.mostServings(recipe), 12);
        }
    }

    /** doneBehind: "if there is no such recipe or pan" */
    private static void pansOfDoneBehind() {
        for (int pan : new int[] {-1, 2, 3, 7, 8, Integer.MAX_VALUE, Integer.MIN_VALUE}) {
            for (int recipe : new int[] {-1, 0, 1, 2}) {
                Check.indexRefused("doneBehind " + recipe + " " + pan, Check::busy, x -> x.doneBehind(recipe, pan));
            }
        }
        Check.indexRefused("doneBehind(5, 8)", WouldBeBoundsTest::sixRecipes, x -> x.doneBehind(5, 8));
        Check.indexRefused("doneBehind(6, 7)", WouldBeBoundsTest::sixRecipes, x -> x.doneBehind(6, 7));
        Check.indexRefused("doneBehind without pans", () -> Check.with("recipe r ()"), x -> x.doneBehind(0, 0));
        Check.due("doneBehind(5, 7)", sixRecipes().doneBehind(5, 7), 0);
    }

    /** "(nothing is changed)" */
    private static void nothingIsChanged() {
        String[] names = {"minutesOfRecipe", "warningsOfRecipe", "firstWarning", "doneBehind", "highestSafe", "mostServings", "digest", "meanHeat"};
        Check.CallOn[] calls = {x -> x.minutesOfRecipe(0), x -> x.warningsOfRecipe(0), x -> x.firstWarning(0), x -> x.doneBehind(0, 0),
            x -> x.highestSafe(0), x -> x.mostServings(0), x -> x.digest(), x -> (long) x.meanHeat()};
        for (int i = 0; i < calls.length; i++) {
            HighRecipes x = Check.busy();
            HighRecipes twin = Check.busy();
            calls[i].answer(x);
            Check.due(names[i] + " changes nothing", State.of(x), State.of(twin));
            Check.due(names[i] + " changes nothing: errorAt", x.errorAt(), twin.errorAt());
            Check.due(names[i] + " changes nothing: the tape", x.trim(Check.BUSY_TAPE), Check.BUSY_TAPE);
            Check.argument(names[i] + " changes nothing: the tape", () -> x.trim(Check.BUSY_TAPE + 1));
            Check.due(names[i] + " changes nothing: cook", x.cook(0), twin.cook(0));
            Check.due(names[i] + " changes nothing: all behind cook", State.of(x), State.of(twin));
        }
    }

    /** Each call tries the kitchen as it is, whatever was tried before. */
    private static void nothingOfTheTrialIsLeft() {
        HighRecipes x = Check.with("pan a holds 60; recipe r (pour 30 water into a; pour 6 meal into a; heat a to boiling; boil a for 30;"
            + "heat a to 101; pour 99 meal into a;)");
        for (int i = 0; i < 3; i++) {
            Check.due("minutesOfRecipe", x.minutesOfRecipe(0), 1 + 1 + 8 + 30 + 1);
            Check.due("warningsOfRecipe", x.warningsOfRecipe(0), 2);
            Check.due("firstWarning", x.firstWarning(0), 5);
            // 36 less 6 spoons are left, 30 more of meal get in: 30 * 6 / 36
            Check.due("doneBehind", x.doneBehind(0, 0), 5);
            Check.due("highestSafe", x.highestSafe(0), -1);
            Check.due("mostServings", x.mostServings(0), 1);
        }
    }

    /** "if it was cooked now": each number of the kitchen and of the pans counts. */
    private static void asTheKitchenIsNow() {
        String[] values = {"altitude", "boiling", "minute", "servings", "spoon", "water of a", "meal of a", "heat of a", "done of a", "room of a"};
        for (String value : values) {
            HighRecipes x = Check.with("pan a holds 90; recipe h (heat a to 98; boil a for 7;) recipe r (rest " + value
                + "; pour 7 water into a; if " + value + "<500 (pour 99 water into a; boil a for 1;))");
            x.setAltitude(8);
            x.setServings(7);
            x.setSpoon(3);
            x.pourWater(0, 50);
            x.pourMeal(0, 11);
            x.rest(5);
            x.cook(0);
            int minutes = x.minutesOfRecipe(1);
            int warnings = x.warningsOfRecipe(1);
            int first = x.firstWarning(1);
            int before = x.warnings();
            Check.due("warnings with " + value, warnings, 2);
            Check.due("firstWarning with " + value, first, 4);
            Check.due("minutes with " + value, x.cook(1), minutes);
            Check.due("warnings with " + value, x.warnings() - before, warnings);
        }
    }

    /** "how many minutes it would take now" */
    private static void minutesOfRecipe() {
        HighRecipes x = Check.with("pan a holds 9; recipe r (rest minute;) recipe s (heat a to 999;)");
        Check.due("at minute 0", x.minutesOfRecipe(0), 0);
        x.rest(1);
        Check.due("at minute 1", x.minutesOfRecipe(0), 1);
        x.rest(598);
        Check.due("at minute 599", x.minutesOfRecipe(0), 599);
        x.rest(1);
        Check.due("at minute 600", x.minutesOfRecipe(0), 600);
        x.rest(1);
        Check.due("at minute 601", x.minutesOfRecipe(0), 600);
        Check.due("nothing to heat", x.minutesOfRecipe(1), 0);
        x.pourWater(0, 1);
        Check.due("a spoon to heat", x.minutesOfRecipe(1), 8);
    }

    /** "how many warnings there would be" */
    private static void warningsOfRecipe() {
        HighRecipes x = Check.with("pan a holds 9; recipe r (again 999 (heat a to 5;)) recipe s (again 4 (heat a to 101; boil a for 1;))");
        Check.due("as many as acts can be begun, but again", x.warningsOfRecipe(0), 99);
        Check.due("of all kinds", x.warningsOfRecipe(1), 8);
        x.cook(0);
        Check.due("without those that were", x.warningsOfRecipe(0), 99);
        x.pourMeal(0, 1);
        Check.due("none any more", x.warningsOfRecipe(0), 0);
        Check.due("both kinds", x.warningsOfRecipe(1), 8);
    }

    private static int firstOf(String book) {
        HighRecipes x = Check.with("pan a holds 9; " + book);
        return x.firstWarning(x.recipes() - 1);
    }

    /** "the number of the act that would bring the first warning ...; -1 if none would" */
    private static void firstWarning() {
        Check.due("no acts", firstOf("recipe r ()"), -1);
        Check.due("no warnings", firstOf("recipe r (rest 1; note 1;)"), -1);
        Check.due("the first", firstOf("recipe r (heat a to 5;)"), 1);
        Check.due("the first of two", firstOf("recipe r (heat a to 5; boil a for 5;)"), 1);
        Check.due("the second", firstOf("recipe r (rest 1; heat a to 5;)"), 2);
        Check.due("the 99th", firstOf("recipe r (again 97 (rest 1;) heat a to 5; heat a to 5;)"), 99);
        Check.due("the 100th", firstOf("recipe r (again 98 (rest 1;) heat a to 5; heat a to 5;)"), 100);
        Check.due("the 101st", firstOf("recipe r (again 99 (rest 1;) heat a to 5; heat a to 5;)"), -1);
        Check.due("kind 1", firstOf("recipe r (rest 1; pour 9 water into a; pour 1 water into a;)"), 3);
        Check.due("kind 2", firstOf("recipe r (pour 9 water into a; heat a to 100; heat a to 101;)"), 3);
        Check.due("kind 3", firstOf("recipe r (pour 0 water into a; heat a to 100;)"), 2);
        Check.due("kind 4", firstOf("recipe r (pour 9 water into a; heat a to 99; boil a for 1;)"), 3);
        Check.due("kind 5", firstOf("recipe r (pour 9 water into a; heat a to 100; boil a for 45; pour 1 water into a; heat a to 100; boil a for 6;)"), 6);
    }

    /** "of several acts in each other the innermost one" */
    private static void firstWarningInBlocks() {
        Check.due("in again", firstOf("recipe r (again 1 (heat a to 5;))"), 2);
        Check.due("in if", firstOf("recipe r (if 1=1 (heat a to 5;))"), 2);
        Check.due("in else", firstOf("recipe r (if 1=2 () else (heat a to 5;))"), 2);
        Check.due("in cook", firstOf("recipe q (heat a to 5;) recipe r (cook q;)"), 2);
        Check.due("deep in blocks", firstOf("recipe r (again 1 (if 1=1 (again 1 (if 1=1 (again 1 (heat a to 5;))))))"), 6);
        Check.due("the third time", firstOf("recipe r (again 9 (pour 4 water into a; rest 1;))"), 6);
        Check.due("behind blocks", firstOf("recipe r (again 3 (rest 1;) if 1=2 (rest 1;) heat a to 5;)"), 6);
        Check.due("cook again", firstOf("recipe q (rest 1; if minute=2 (heat a to 5;)) recipe r (cook q; cook q;)"), 7);
    }

    /** "by how much the pan would be done behind it" */
    private static void doneBehind() {
        HighRecipes x = Check.with("pan a holds 200; pan b holds 9; recipe r (heat a to boiling; boil a for 50;) recipe s (empty a;)");
        Check.due("nothing in it", x.doneBehind(0, 0), 0);
        x.pourWater(0, 100);
        Check.due("without meal", x.doneBehind(0, 0), 0);
        x.pourMeal(0, 1);
        Check.due("once", x.doneBehind(0, 0), 50);
        Check.due("of the other", x.doneBehind(0, 1), 0);
        Check.due("it is not done yet", x.doneIn(0), 0);
        x.cook(0);
        Check.due("twice", x.doneBehind(0, 0), 100);
        x.cook(0);
        Check.due("at most 100", x.doneBehind(0, 0), 100);
        Check.due("emptied", x.doneBehind(1, 0), 0);
        Check.due("it is done still", x.doneIn(0), 100);
    }

    private static int highest(String acts) {
        return Check.with("pan a holds 100; recipe r (" + acts + ")").highestSafe(0);
    }

    /** "the greatest altitude, 0 to 60, at which it would bring no warnings ...; -1 if there is none" */
    private static void highestSafe() {
        Check.due("no acts", highest(""), 60);
        Check.due("everywhere", highest("pour 1 water into a; heat a to 80;"), 60);
        Check.due("everywhere but at 60", highest("pour 1 water into a; heat a to 81;"), 59);
        Check.due("up to 2", highest("pour 1 water into a; heat a to 100;"), 2);
        Check.due("up to 5", highest("pour 1 water into a; heat a to 99;"), 5);
        Check.due("nowhere", highest("pour 1 water into a; heat a to 101;"), -1);
        Check.due("at 0 alone", highest("if altitude=0 () else (boil a for 1;)"), 0);
        Check.due("at 1 alone", highest("if altitude=1 () else (boil a for 1;)"), 1);
        Check.due("at 59 alone", highest("if altitude=59 () else (boil a for 1;)"), 59);
        Check.due("at 60 alone", highest("if altitude=60 () else (boil a for 1;)"), 60);
        Check.due("not at 60", highest("if altitude=60 (boil a for 1;)"), 59);
        Check.due("not at 61", highest("if altitude=61 () else (boil a for 1;)"), -1);
        Check.due("at 0 and 30", highest("if altitude=0 () else (if altitude=30 () else (boil a for 1;))"), 30);
        for (String kind : new String[] {"pour 101 water into a;", "pour 1 meal into a; heat a to 101;", "heat a to 1;", "boil a for 1;",
            "pour 1 water into a; heat a to boiling; boil a for 6;"}) {
            Check.due("a warning of each kind counts: " + kind, highest(kind), -1);
        }
        // 20 minutes in 5 spoons: 25 of 100 more at 100 - 5, from 18 on it is more
        Check.due("5 spoons for 20", highest("pour 5 water into a; heat a to boiling; boil a for 20;"), 17);
        HighRecipes x = Check.busy();
        x.highestSafe(0);
        Check.due("altitude stays", x.altitude(), 7);
    }

    /** "if the kitchen was set there and it was cooked now": pans with water that are hotter cool there. */
    private static void highestSafeSetsTheKitchenThere() {
        String heat = "pan a holds 100; recipe h (heat a to 100;) recipe r ";
        HighRecipes x = Check.with(heat + "(if heat of a>80 (boil a for 999;))");
        x.pourWater(0, 9);
        x.cook(0);
        Check.due("as hot as 80 up there", x.highestSafe(1), 60);
        Check.due("it is as hot as it was", x.heatOf(0), 100);
        HighRecipes y = Check.with(heat + "(if heat of a<81 (boil a for 999;))");
        y.pourWater(0, 9);
        y.cook(0);
        Check.due("hotter than 80 below", y.highestSafe(1), 59);
        HighRecipes z = Check.with(heat + "(if heat of a<100 (boil a for 999;))");
        z.pourMeal(0, 9);
        z.cook(0);
        Check.due("meal does not cool", z.highestSafe(1), 60);
        z.pourWater(0, 1);
        Check.due("a spoon of water", z.highestSafe(1), -1);
    }

    private static int most(String acts) {
        return Check.with("pan a holds 24; recipe r (" + acts + ")").mostServings(0);
    }

    /** "the greatest number, 1 to 12, for which it would bring no warnings of the kind 1 ...; -1 if there is none" */
    private static void mostServings() {
        Check.due("no acts", most(""), 12);
        Check.due("8 for 12 are 24", most("pour 8 water into a;"), 12);
        Check.due("9 for 11 are 24.75", most("pour 9 water into a;"), 10);
        Check.due("two of 4 for 12 are 24", most("pour 4 water into a; pour 4 meal into a;"), 12);
        Check.due("96 for 1 are 24", most("pour 96 water into a;"), 1);
        Check.due("97 for 1 are 24.25", most("pour 97 water into a;"), 1);
        Check.due("98 for 1 are 24.5", most("pour 98 water into a;"), -1);
        Check.due("for none", most("pour 999 water into a;"), -1);
        Check.due("for 1 alone", most("if servings=1 () else (pour 999 water into a;)"), 1);
        Check.due("for 2 alone", most("if servings=2 () else (pour 999 water into a;)"), 2);
        Check.due("for 11 alone", most("if servings=11 () else (pour 999 water into a;)"), 11);
        Check.due("for 12 alone", most("if servings=12 () else (pour 999 water into a;)"), 12);
        Check.due("not for 12", most("if servings=12 (pour 999 water into a;)"), 11);
        Check.due("not for 0", most("if servings=0 () else (pour 999 water into a;)"), -1);
        Check.due("not for 13", most("if servings=13 () else (pour 999 water into a;)"), -1);
        Check.due("for 1 and 7", most("if servings=1 () else (if servings=7 () else (pour 999 water into a;))"), 7);
        HighRecipes x = Check.busy();
        x.mostServings(0);
        Check.due("servings stay", x.servings(), 5);
        HighRecipes y = Check.with("pan a holds 24; recipe r (pour 8 water into a;)");
        y.pourMeal(0, 1);
        Check.due("with a spoon in it", y.mostServings(0), 11);
        y.pourMeal(0, 200);
        Check.due("with no room", y.mostServings(0), -1);
    }

    private static void mostServingsCountsKind1Alone() {
        Check.due("kind 2", most("pour 1 water into a; heat a to 101;"), 12);
        Check.due("kind 3", most("heat a to 101;"), 12);
        Check.due("kind 4", most("boil a for 1;"), 12);
        Check.due("kind 5", most("pour 1 water into a; heat a to 100; boil a for 999;"), 12);
        Check.due("kind 3, and 1 from 12 on", most("heat a to 101; pour 8 water into a; if servings=12 (pour 1 water into a;)"), 11);
    }

    // ---- digest

    /** The checksum of the document, with numbers that do not wrap around, and 64 bits of it in the end. */
    private static long checksum(HighRecipes x) {
        BigInteger d = BigInteger.valueOf(1913);
        long[] first = {x.pans(), x.recipes(), x.acts(), x.altitude(), x.servings(), x.spoon(), x.minute(), x.warnings(), x.notes()};
        for (long number : first) {
            d = next(d, number);
        }
        for (int kind = 1; kind <= 5; kind++) {
            d = next(d, x.warningsOf(kind));
        }
        for (int pan = 0; pan < x.pans(); pan++) {
            for (int number : new int[] {x.holdsOf(pan), x.waterIn(pan), x.mealIn(pan), x.heatOf(pan), x.doneIn(pan)}) {
                d = next(d, number);
            }
        }
        for (int back = 0; back < Math.min(20, x.warnings()); back++) {
            d = next(d, x.warningAt(back));
        }
        for (int back = 0; back < Math.min(20, x.notes()); back++) {
            d = next(d, x.noteAt(back));
        }
        return d.longValue();
    }

    private static BigInteger next(BigInteger d, long number) {
        return d.multiply(BigInteger.valueOf(31)).add(BigInteger.valueOf(number));
    }

    /** "then warningAt(), and then noteAt(), from 0 on, as many as there are (20 at the most)" */
    private static void digestOfHistories() {
        for (int warnings : new int[] {0, 1, 19, 20, 21, 45}) {
            for (int notes : new int[] {0, 1, 19, 20, 21, 45}) {
                HighRecipes x = Check.with("pan a holds 1; recipe w (boil a for 1; heat a to 1;) recipe v (heat a to 1;) recipe n (note (minute-20); rest 1;)");
                for (int i = 0; i < warnings / 2; i++) {
                    x.cook(0);
                }
                if (warnings % 2 == 1) {
                    x.cook(1);
                }
                for (int i = 0; i < notes; i++) {
                    x.cook(2);
                }
                Check.due("warnings", x.warnings(), warnings);
                Check.due("notes", x.notes(), notes);
                Check.due("digest of " + warnings + " warnings and " + notes + " notes", x.digest(), checksum(x));
            }
        }
    }

    /** "which wraps around as a 64-bit integer" */
    private static void digestWrapsAround() {
        Check.due("digest of a new object", new HighRecipes().digest(), checksum(new HighRecipes()));
        Check.due("digest of 8 pans", sixRecipes().digest(), checksum(sixRecipes()));
        Check.due("digest of a busy one", Check.busy().digest(), checksum(Check.busy()));
        HighRecipes x = Check.with("recipe r (note ((512*512)*(512*16)); note (((512*512)*(512*16))-1); note (0-1);)");
        x.cook(0);
        Check.due("the least", x.noteAt(2), Integer.MIN_VALUE);
        Check.due("the most", x.noteAt(1), Integer.MAX_VALUE);
        Check.due("digest of the least and the most", x.digest(), checksum(x));
        for (int i = 0; i < 9; i++) {
            x.cook(0);
        }
        Check.due("digest of many of them", x.digest(), checksum(x));
    }
}
