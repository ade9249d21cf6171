/** '3. Cooking' and promise 35, sentence by sentence: each bound from both sides. */
public final class CookingBoundsTest {
    // -2147483648, which is 512 * 512 * 512 * 16, and as far as it can be from 0 on the other side
    private static final String LEAST = "((512*512)*(512*16))";
    private static final String MOST = "(" + LEAST + "-1)";
    // 1073741824: four times this is 0 in 32 bits
    private static final String QUARTER = "((512*512)*(512*8))";

    public static void main(String[] args) {
        recipesToCook();
        hundredActs();
        pour();
        heat();
        boil();
        emptyAndRest();
        blocks();
        cooling();
        manyCalls();
        Check.done();
    }

    private static void hundredActs() {
        hundredActsOfOneBlock();
        hundredActsInBlocks();
        hundredthActThatHasABlock();
        hundredActsOfEachCooking();
    }

    private static void pour() {
        amountOfPour();
        roomOfPour();
        minuteOfPour();
    }

    private static void heat() {
        heatNothing();
        heatToTheBoilingPoint();
        heatOfTheLessHot();
        minutesOfHeat();
    }

    private static void boil() {
        boilWithoutWater();
        boilWhatIsLessHot();
        valueOfBoil();
        boilDry();
        waterOfBoil();
        doneOfBoil();
        doneHigherUp();
        heatBehindBoil();
    }

    private static void emptyAndRest() {
        empty();
        valueOfRest();
    }

    private static void blocks() {
        valueOfAgain();
        valueOfAgainAsItBegins();
        comparesOfIf();
        allComparesOfIf();
        comparesAsIfBegins();
    }

    private static void cooling() {
        othersCoolInAnAct();
        allCoolInARest();
        othersDoNotCoolInNoTime();
    }

    // ---- helpers

    private static HighRecipes kitchen(String acts) {
        return Check.with("pan a holds 100; pan b holds 20; pan c holds 200; recipe r (" + acts + ")");
    }

    /** Cooks the last recipe, and looks at its minutes and its warnings, as digits from the first one on. */
    private static HighRecipes cook(HighRecipes x, String what, int minutes, long warned) {
        int before = x.warnings();
        Check.due(what + ": cook", x.cook(x.recipes() - 1), minutes);
        long digits = 0;
        for (int back = x.warnings() - before - 1; back >= 0; back--) {
            digits = digits * 10 + x.warningAt(back);
        }
        Check.due(what + ": warnings", digits, warned);
        return x;
    }

    private static HighRecipes cooked(String acts, int minutes, long warned) {
        return cook(kitchen(acts), acts, minutes, warned);
    }

    private static HighRecipes cookedAt(int altitude, String acts, int minutes, long warned) {
        HighRecipes x = kitchen(acts);
        x.setAltitude(altitude);
        return cook(x, acts + " at " + altitude, minutes, warned);
    }

    private static void look(String what, HighRecipes x, int pan, int water, int meal, int heat, int done) {
        Check.due(what + ": waterIn " + pan, x.waterIn(pan), water);
        Check.due(what + ": mealIn " + pan, x.mealIn(pan), meal);
        Check.due(what + ": heatOf " + pan, x.heatOf(pan), heat);
        Check.due(what + ": doneIn " + pan, x.doneIn(pan), done);
    }

    // ---- recipes and acts

    /** cook: "if there is no such recipe" */
    private static void recipesToCook() {
        Check.indexRefused("cook(0) of a new object", HighRecipes::new, x -> x.cook(0));
        for (int recipe : new int[] {-1, 2, 3, 5, 6, Integer.MAX_VALUE, Integer.MIN_VALUE}) {
            Check.indexRefused("cook " + recipe, Check::busy, x -> x.cook(recipe));
        }
        HighRecipes y = Check.with("recipe a(rest 1;)recipe b(rest 2;)recipe c(rest 3;)recipe d(rest 4;)recipe e(rest 5;)recipe f(rest 6;)");
        for (int recipe = 0; recipe < 6; recipe++) {
            Check.due("cook " + recipe + " of 6", y.cook(recipe), recipe + 1);
        }
        Check.index("cook 6 of 6", () -> y.cook(6));
        Check.due("minute behind them", y.minute(), 21);
        Check.due("a recipe without acts", Check.with("recipe r ()").cook(0), 0);
    }

    /** "each act that is begun is numbered, from 1 on ...; as 100 are begun, no more are" */
    private static void hundredActsOfOneBlock() {
        cooked("again 98 (rest 1;)", 98, 0);
        cooked("again 99 (rest 1;)", 99, 0);
        cooked("again 100 (rest 1;)", 99, 0);
        cooked("again 98 (rest 1;) rest 5;", 103, 0);
        cooked("again 99 (rest 1;) rest 5;", 99, 0);
        cooked("again 97 (rest 1;) rest 5; rest 7; rest 9;", 109, 0);
        Check.due("the 100th act", cooked("again 98 (rest 1;) note 1; note 2;", 98, 0).noteAt(0), 1);
        Check.due("the 99th and 100th act", cooked("again 97 (rest 1;) note 1; note 2; note 3;", 97, 0).noteAt(0), 2);
        Check.due("no 101st act", cooked("again 99 (rest 1;) note 1;", 99, 0).notes(), 0);
        cooked("again 98 (rest 1;) heat a to 9; boil a for 9;", 98, 3);
        // in a block of several: 33 times 3 behind again, or 49 times 2 and one more
        Check.due("33 whole times", cooked("again 99 (rest 1; note 1; rest 1;)", 66, 0).notes(), 33);
        Check.due("49 whole times", cooked("again 99 (note 1; rest 1;)", 49, 0).notes(), 50);
    }

    /** "those in blocks of others as well" */
    private static void hundredActsInBlocks() {
        cooked("again 99 (again 1 (rest 1;))", 49, 0);
        cooked("again 99 (if 1=1 (rest 1;))", 49, 0);
        cooked("again 99 (if 1=2 (rest 9;) else (rest 1;))", 49, 0);
        // what is not done is not numbered
        cooked("again 98 (rest 1;) if 1=2 (rest 3; rest 3;)", 98, 0);
        cooked("again 0 (rest 1; rest 1;) again 98 (rest 1;)", 98, 0);
        cooked("again 0 (rest 1; rest 1;) again 99 (rest 1;)", 98, 0);
        HighRecipes x = Check.with("recipe q (rest 1;) recipe r (again 99 (cook q;))");
        Check.due("again and 49 times cook and rest", x.cook(1), 49);
        HighRecipes y = Check.with("recipe q (again 49 (rest 1;)) recipe r (cook q; cook q; rest 9;)");
        Check.due("51 acts, and 49 of as many", y.cook(1), 49 + 47);
        HighRecipes z = Check.with("recipe q (again 48 (rest 1;)) recipe r (cook q; cook q; rest 9;)");
        Check.due("twice 50 acts", z.cook(1), 96);
        HighRecipes u = Check.with("recipe q (again 47 (rest 1;)) recipe r (cook q; cook q; rest 9; rest 8; rest 7;)");
        Check.due("twice 49 acts and two more", u.cook(1), 94 + 17);
    }

    private static void hundredthActThatHasABlock() {
        cooked("again 98 (rest 1;) again 3 (rest 9;) rest 9;", 98, 0);
        cooked("again 97 (rest 1;) again 3 (rest 9;) rest 9;", 106, 0);
        cooked("again 98 (rest 1;) if 1=1 (rest 9;) else (rest 9;)", 98, 0);
        cooked("again 97 (rest 1;) if 1=1 (rest 9;) else (rest 9;)", 106, 0);
        cooked("again 98 (rest 1;) if 1=2 (rest 9;) else (rest 9;)", 98, 0);
        cooked("again 97 (rest 1;) if 1=2 (rest 9;) else (rest 9;)", 106, 0);
        HighRecipes x = Check.with("recipe q (rest 9;) recipe r (again 98 (rest 1;) cook q; rest 9;)");
        Check.due("cook as the 100th", x.cook(1), 98);
        HighRecipes y = Check.with("recipe q (rest 9;) recipe r (again 97 (rest 1;) cook q; rest 9;)");
        Check.due("cook as the 99th", y.cook(1), 106);
    }

    private static void hundredActsOfEachCooking() {
        HighRecipes x = Check.with("recipe r (again 200 (rest 1;))");
        for (int i = 0; i < 5; i++) {
            Check.due("minutesOfRecipe of cooking " + i, x.minutesOfRecipe(0), 99);
            Check.due("cooking " + i, x.cook(0), 99);
        }
    }

    // ---- pour

    /** "(one less than 0 counts as 0, one greater than 999 as 999)" */
    private static void amountOfPour() {
        look("pour 1", cooked("pour 1 water into a;", 1, 0), 0, 1, 0, 20, 0);
        look("pour 0", cooked("pour 0 water into a;", 1, 0), 0, 0, 0, 20, 0);
        look("pour -1", cooked("pour (0-1) water into a;", 1, 0), 0, 0, 0, 20, 0);
        look("pour -100", cooked("pour 9 meal into a; pour (0-100) meal into a;", 2, 0), 0, 0, 9, 20, 0);
        look("pour the least", cooked("pour " + LEAST + " meal into a;", 1, 0), 0, 0, 0, 20, 0);
        look("pour 999", cooked("pour 999 meal into a;", 1, 1), 0, 0, 100, 20, 0);
        look("pour 1000", cooked("pour (999+1) meal into a;", 1, 1), 0, 0, 100, 20, 0);
        look("pour the most", cooked("pour " + MOST + " water into a;", 1, 1), 0, 100, 0, 20, 0);
        look("pour what would wrap around", cooked("pour " + QUARTER + " water into a;", 1, 1), 0, 100, 0, 20, 0);
        HighRecipes x = kitchen("pour 9 water into a; pour " + MOST + " meal into c; pour " + LEAST + " water into b;");
        x.setServings(12);
        x.setSpoon(10);
        cook(x, "for 12 by 10", 3, 1);
        look("27 is as near to 30", x, 0, 30, 0, 20, 0);
        look("none of the least", x, 1, 0, 0, 20, 0);
        look("the most", x, 2, 0, 200, 20, 0);
        HighRecipes y = kitchen("pour 1 water into a; pour 2 water into b;");
        y.setServings(1);
        cook(y, "for 1", 2, 0);
        look("a quarter", y, 0, 0, 0, 20, 0);
        look("a half", y, 1, 1, 0, 20, 0);
    }

    /** "warning 1, if not all get in" */
    private static void roomOfPour() {
        look("one less than all", cooked("pour 99 water into a;", 1, 0), 0, 99, 0, 20, 0);
        look("just all", cooked("pour 100 water into a;", 1, 0), 0, 100, 0, 20, 0);
        look("one too many", cooked("pour 101 water into a;", 1, 1), 0, 100, 0, 20, 0);
        look("both, just all", cooked("pour 15 water into b; pour 5 meal into b;", 2, 0), 1, 15, 5, 20, 0);
        look("both, one too many", cooked("pour 15 water into b; pour 6 meal into b;", 2, 1), 1, 15, 5, 20, 0);
        look("none into a full pan", cooked("pour 20 water into b; pour 0 meal into b;", 2, 0), 1, 20, 0, 20, 0);
        look("one into a full pan", cooked("pour 20 water into b; pour 1 meal into b;", 2, 1), 1, 20, 0, 20, 0);
        look("heat in a full pan", cooked("pour 20 meal into b; heat b to 50; pour 9 meal into b;", 5, 1), 1, 0, 20, 50, 0);
        look("only what gets in cools", cooked("pour 10 meal into b; heat b to 50; pour 99 meal into b;", 5, 1), 1, 0, 20, 35, 0);
    }

    /** "It takes 1 minute." */
    private static void minuteOfPour() {
        cooked("pour 0 water into a;", 1, 0);
        cooked("pour 999 water into a; pour 999 meal into a;", 2, 11);
        Check.due("minute", cooked("pour 1 water into a; pour 1 meal into a; pour 1 water into b;", 3, 0).minute(), 3);
    }

    // ---- heat

    /** "nothing is in the pan: warning 3, and nothing else" */
    private static void heatNothing() {
        for (String value : new String[] {"0", "20", "21", "100", "101", MOST, LEAST}) {
            look("heat nothing to " + value, cooked("heat a to " + value + ";", 0, 3), 0, 0, 0, 20, 0);
        }
        cooked("pour 0 water into a; heat a to 30;", 1, 3);
        look("a spoon of water", cooked("pour 1 water into a; heat a to 30;", 2, 0), 0, 1, 0, 30, 0);
        look("a spoon of meal", cooked("pour 1 meal into a; heat a to 30;", 2, 0), 0, 0, 1, 30, 0);
        // boiled dry: hot, but with nothing in it
        look("boiled dry", cooked("pour 1 water into a; heat a to 100; boil a for 5; heat a to 101;", 14, 3), 0, 0, 0, 100, 0);
        look("boiled dry, with meal", cooked("pour 1 water into a; pour 1 meal into a; heat a to 100; boil a for 5; heat a to 99;", 15, 0),
            0, 0, 1, 100, 5);
        cooked("pour 5 meal into a; empty a; heat a to 50;", 2, 3);
    }

    /** "warning 2, if the value is greater than the boiling point, which takes its place then" */
    private static void heatToTheBoilingPoint() {
        String meal = "pour 1 meal into a; ";
        look("to 99", cooked(meal + "heat a to 99;", 9, 0), 0, 0, 1, 99, 0);
        look("to 100", cooked(meal + "heat a to 100;", 9, 0), 0, 0, 1, 100, 0);
        look("to 101", cooked(meal + "heat a to 101;", 9, 2), 0, 0, 1, 100, 0);
        look("to the most", cooked(meal + "heat a to " + MOST + ";", 9, 2), 0, 0, 1, 100, 0);
        look("to boiling", cooked(meal + "heat a to boiling;", 9, 0), 0, 0, 1, 100, 0);
        look("to boiling and 1", cooked(meal + "heat a to (boiling+1);", 9, 2), 0, 0, 1, 100, 0);
        look("to 80 at 60", cookedAt(60, meal + "heat a to 80;", 7, 0), 0, 0, 1, 80, 0);
        look("to 81 at 60", cookedAt(60, meal + "heat a to 81;", 7, 2), 0, 0, 1, 80, 0);
        look("to 100 at 2", cookedAt(2, meal + "heat a to 100;", 9, 0), 0, 0, 1, 100, 0);
        look("to 100 at 3", cookedAt(3, meal + "heat a to 100;", 9, 2), 0, 0, 1, 99, 0);
        look("too much, and as hot", cooked(meal + "heat a to 100; heat a to 101;", 9, 2), 0, 0, 1, 100, 0);
    }

    /** "If the pan is less hot than this, it is as hot as this then" */
    private static void heatOfTheLessHot() {
        String meal = "pour 1 meal into a; heat a to 50; ";
        look("to 49", cooked(meal + "heat a to 49;", 4, 0), 0, 0, 1, 50, 0);
        look("to 50", cooked(meal + "heat a to 50;", 4, 0), 0, 0, 1, 50, 0);
        look("to 51", cooked(meal + "heat a to 51;", 5, 0), 0, 0, 1, 51, 0);
        look("to 0", cooked(meal + "heat a to 0;", 4, 0), 0, 0, 1, 50, 0);
        look("to less than 0", cooked(meal + "heat a to (0-1);", 4, 0), 0, 0, 1, 50, 0);
        look("to the least", cooked(meal + "heat a to " + LEAST + ";", 4, 0), 0, 0, 1, 50, 0);
        look("to 20", cooked("pour 1 meal into a; heat a to 20;", 1, 0), 0, 0, 1, 20, 0);
        look("to 21", cooked("pour 1 meal into a; heat a to 21;", 2, 0), 0, 0, 1, 21, 0);
        // hotter than water can be up there
        HighRecipes x = Check.with("pan a holds 100; recipe h (heat a to 100;) recipe r (heat a to 81;)");
        x.pourMeal(0, 5);
        x.cook(0);
        x.setAltitude(60);
        cook(x, "hotter than the boiling point", 0, 2);
        look("stays hotter than the boiling point", x, 0, 0, 5, 100, 0);
    }

    /** "it takes a minute for each 10 degrees, or a part of 10" */
    private static void minutesOfHeat() {
        int[][] known = {{20, 0}, {21, 1}, {29, 1}, {30, 1}, {31, 2}, {40, 2}, {41, 3}, {90, 7}, {91, 8}, {99, 8}, {100, 8}};
        for (int[] row : known) {
            cooked("pour 1 meal into a; heat a to " + row[0] + ";", 1 + row[1], 0);
        }
        cooked("pour 1 meal into a; heat a to 25; heat a to 35; heat a to 46;", 1 + 1 + 1 + 2, 0);
        Check.due("not more than to the boiling point", cooked("pour 1 meal into a; heat a to 999;", 9, 2).minute(), 9);
    }

    // ---- boil

    /** "there is no water in the pan ...: warning 4, and nothing else" */
    private static void boilWithoutWater() {
        look("boil nothing", cooked("boil a for 5;", 0, 4), 0, 0, 0, 20, 0);
        look("boil meal alone", cooked("pour 9 meal into a; heat a to 100; boil a for 5;", 9, 4), 0, 0, 9, 100, 0);
        look("boil a spoon of water", cooked("pour 1 water into a; heat a to 100; boil a for 1;", 10, 0), 0, 1, 0, 100, 0);
        look("boil no more water", cooked("pour 1 water into a; heat a to 100; boil a for 5; boil a for 0;", 14, 4), 0, 0, 0, 100, 0);
        look("boil much of nothing", cooked("boil a for " + MOST + ";", 0, 4), 0, 0, 0, 20, 0);
    }

    /** "or it is less hot than the boiling point: warning 4, and nothing else" */
    private static void boilWhatIsLessHot() {
        String both = "pour 9 water into a; pour 1 meal into a; ";
        look("boil at 99", cooked(both + "heat a to 99; boil a for 5;", 10, 4), 0, 9, 1, 99, 0);
        look("boil at 100", cooked(both + "heat a to 100; boil a for 5;", 15, 0), 0, 8, 1, 100, 5);
        look("boil at 79, up at 60", cookedAt(60, both + "heat a to 79; boil a for 5;", 8, 4), 0, 9, 1, 79, 0);
        look("boil at 80, up at 60", cookedAt(60, both + "heat a to 80; boil a for 5;", 18, 0), 0, 7, 1, 80, 5);
        look("boil at 99, up at 3", cookedAt(3, both + "heat a to 99; boil a for 5;", 16, 0), 0, 8, 1, 99, 5);
        look("boil at 99, up at 2", cookedAt(2, both + "heat a to 99; boil a for 5;", 10, 4), 0, 9, 1, 99, 0);
        // a spoon more makes it less hot
        look("boil behind pouring", cooked(both + "heat a to 100; pour 1 water into a; boil a for 5;", 11, 4), 0, 10, 1, 92, 0);
        HighRecipes x = Check.with("pan a holds 200; recipe h (heat a to 100;) recipe r (boil a for 1;)");
        x.pourMeal(0, 198);
        x.cook(0);
        x.setAltitude(60);
        x.pourWater(0, 1);
        Check.due("hotter than the boiling point", x.heatOf(0), 99);
        cook(x, "hotter than the boiling point", 2, 0);
        look("hotter than the boiling point", x, 0, 1, 198, 80, 1);
    }

    /** "as many minutes as the value (0 to 999, like an amount) is translated into" */
    private static void valueOfBoil() {
        String water = "pour 200 water into c; heat c to boiling; ";
        int[][] known = {{0, 0}, {1, 1}, {998, 998}, {999, 999}};
        for (int[] row : known) {
            look("boil for " + row[0], cooked(water + "boil c for " + row[0] + ";", 9 + row[1], 0), 2, 200 - row[1] / 5, 0, 100, 0);
        }
        String[] greater = {"(999+1)", "(999+2)", "(999+999)", MOST, QUARTER, "((512*512)*(512*4))"};
        for (String value : greater) {
            look("boil for " + value, cooked(water + "boil c for " + value + ";", 9 + 999, 0), 2, 1, 0, 100, 0);
        }
        for (String value : new String[] {"(0-1)", "(0-5)", "(0-999)", LEAST}) {
            look("boil for " + value, cooked(water + "boil c for " + value + ";", 9, 0), 2, 200, 0, 100, 0);
        }
        // up there: multiplied by 2, or by 105 of 100
        look("boil for 499 at 60", cookedAt(60, water + "boil c for 499;", 7 + 998, 0), 2, 1, 0, 80, 0);
        look("boil for 1 at 3", cookedAt(3, water + "boil c for 1;", 9 + 2, 0), 2, 200, 0, 99, 0);
        look("boil for 20 at 3", cookedAt(3, water + "boil c for 20;", 9 + 21, 0), 2, 196, 0, 99, 0);
        look("boil for 21 at 3", cookedAt(3, water + "boil c for 21;", 9 + 23, 0), 2, 196, 0, 99, 0);
        look("boil for 0 at 60", cookedAt(60, water + "boil c for 0;", 7, 0), 2, 200, 0, 80, 0);
        look("boil for -1 at 60", cookedAt(60, water + "boil c for (0-1);", 7, 0), 2, 200, 0, 80, 0);
        look("boil for -99 at 60", cookedAt(60, water + "boil c for (0-99);", 7, 0), 2, 200, 0, 80, 0);
    }

    /** "but no more than 5 for each spoon of water: warning 5, if it would be more" */
    private static void boilDry() {
        String[] water = {"pour 1 water into a; heat a to 100; ", "pour 3 water into a; heat a to 100; "};
        look("1 spoon for 4", cooked(water[0] + "boil a for 4;", 13, 0), 0, 1, 0, 100, 0);
        look("1 spoon for 5", cooked(water[0] + "boil a for 5;", 14, 0), 0, 0, 0, 100, 0);
        look("1 spoon for 6", cooked(water[0] + "boil a for 6;", 14, 5), 0, 0, 0, 100, 0);
        look("3 spoons for 14", cooked(water[1] + "boil a for 14;", 23, 0), 0, 1, 0, 100, 0);
        look("3 spoons for 15", cooked(water[1] + "boil a for 15;", 24, 0), 0, 0, 0, 100, 0);
        look("3 spoons for 16", cooked(water[1] + "boil a for 16;", 24, 5), 0, 0, 0, 100, 0);
        look("199 spoons for 995", cooked("pour 199 water into c; heat c to 100; boil c for 995;", 9 + 995, 0), 2, 0, 0, 100, 0);
        look("199 spoons for 996", cooked("pour 199 water into c; heat c to 100; boil c for 996;", 9 + 995, 5), 2, 0, 0, 100, 0);
        look("199 spoons for 1000", cooked("pour 199 water into c; heat c to 100; boil c for (999+1);", 9 + 995, 5), 2, 0, 0, 100, 0);
        look("200 spoons for 500 at 60", cookedAt(60, "pour 200 water into c; heat c to 80; boil c for 500;", 7 + 1000, 0), 2, 0, 0, 80, 0);
        look("200 spoons for 501 at 60", cookedAt(60, "pour 200 water into c; heat c to 80; boil c for 501;", 7 + 1000, 5), 2, 0, 0, 80, 0);
        look("5 spoons for 23 at 3", cookedAt(3, "pour 5 water into a; heat a to 99; boil a for 23;", 9 + 25, 0), 0, 0, 0, 99, 0);
        look("5 spoons for 24 at 3", cookedAt(3, "pour 5 water into a; heat a to 99; boil a for 24;", 9 + 25, 5), 0, 0, 0, 99, 0);
    }

    /** "For each 5 minutes there is a spoon of water less." */
    private static void waterOfBoil() {
        int[][] known = {{0, 50}, {1, 50}, {4, 50}, {5, 49}, {6, 49}, {9, 49}, {10, 48}, {14, 48}, {249, 1}, {250, 0}};
        for (int[] row : known) {
            look("50 spoons for " + row[0], cooked("pour 50 water into a; heat a to 100; boil a for " + row[0] + ";", 9 + row[0], 0),
                0, row[1], 0, 100, 0);
        }
        look("twice 4 minutes", cooked("pour 9 water into a; heat a to 100; boil a for 4; boil a for 4;", 17, 0), 0, 9, 0, 100, 0);
    }

    /** "If there is meal, the pan is done by minutes ... more, at most 100." */
    private static void doneOfBoil() {
        String water = "pour 50 water into a; heat a to 100; ";
        String both = "pour 50 water into a; pour 1 meal into a; heat a to 100; ";
        look("without meal", cooked(water + "boil a for 99;", 108, 0), 0, 31, 0, 100, 0);
        look("a spoon of meal", cooked(both + "boil a for 98;", 108, 0), 0, 31, 1, 100, 98);
        look("done by 99", cooked(both + "boil a for 99;", 109, 0), 0, 31, 1, 100, 99);
        look("done by 100", cooked(both + "boil a for 100;", 110, 0), 0, 30, 1, 100, 100);
        look("done by no more", cooked(both + "boil a for 101;", 111, 0), 0, 30, 1, 100, 100);
        look("60 and 39", cooked(both + "boil a for 60; boil a for 39;", 109, 0), 0, 31, 1, 100, 99);
        look("60 and 40", cooked(both + "boil a for 60; boil a for 40;", 110, 0), 0, 30, 1, 100, 100);
        look("60 and 41", cooked(both + "boil a for 60; boil a for 41;", 111, 0), 0, 30, 1, 100, 100);
        look("0", cooked(both + "boil a for 0;", 10, 0), 0, 50, 1, 100, 0);
        // 5 minutes for the spoon, no more
        look("dry", cooked("pour 1 water into a; pour 1 meal into a; heat a to 100; boil a for 99;", 15, 5), 0, 0, 1, 100, 5);
    }

    /** "by minutes * 100 / (the number by which minutes are multiplied at this altitude)" */
    private static void doneHigherUp() {
        String both = "pour 50 water into a; pour 1 meal into a; heat a to boiling; ";
        look("1 at 60", cookedAt(60, both + "boil a for 1;", 8 + 2, 0), 0, 50, 1, 80, 1);
        look("99 at 60", cookedAt(60, both + "boil a for 99;", 8 + 198, 0), 0, 11, 1, 80, 99);
        look("100 at 60", cookedAt(60, both + "boil a for 100;", 8 + 200, 0), 0, 10, 1, 80, 100);
        look("101 at 60", cookedAt(60, both + "boil a for 101;", 8 + 202, 0), 0, 10, 1, 80, 100);
        look("1 at 3", cookedAt(3, both + "boil a for 1;", 10 + 2, 0), 0, 50, 1, 99, 1);
        look("20 at 3", cookedAt(3, both + "boil a for 20;", 10 + 21, 0), 0, 46, 1, 99, 20);
        look("25 at 3: 27 minutes, 25.7", cookedAt(3, both + "boil a for 25;", 10 + 27, 0), 0, 45, 1, 99, 25);
        look("99 at 3: 104 minutes, 99.04", cookedAt(3, both + "boil a for 99;", 10 + 104, 0), 0, 30, 1, 99, 99);
        // 3 spoons last 15 minutes: 15 * 100 / 200, and 15 * 100 / 105
        look("dry at 60", cookedAt(60, "pour 3 water into a; pour 1 meal into a; heat a to 80; boil a for 9;", 8 + 15, 5), 0, 0, 1, 80, 7);
        look("dry at 3", cookedAt(3, "pour 3 water into a; pour 1 meal into a; heat a to 99; boil a for 99;", 10 + 15, 5), 0, 0, 1, 99, 14);
        look("dry at 2", cookedAt(2, "pour 3 water into a; pour 1 meal into a; heat a to 100; boil a for 99;", 10 + 15, 5), 0, 0, 1, 100, 15);
    }

    /** "The pan is as hot as the boiling point then." */
    private static void heatBehindBoil() {
        for (int minutes : new int[] {0, 1, 10}) {
            HighRecipes x = Check.with("pan a holds 200; recipe h (heat a to 100;) recipe r (boil a for " + minutes + ";)");
            x.pourMeal(0, 198);
            x.cook(0);
            x.setAltitude(60);
            x.pourWater(0, 2);
            Check.due("ahead of boil for " + minutes, x.heatOf(0), 99);
            int due = Math.min(10, 2 * minutes);
            cook(x, "boil for " + minutes, due, minutes == 10 ? 5 : 0);
            look("behind boil for " + minutes, x, 0, 2 - due / 5, 198, 80, due / 2);
        }
    }

    // ---- empty, rest

    /** "there is nothing in the pan, its heat is 20, it is done by 0; it takes 1 minute" */
    private static void empty() {
        look("empty what is empty", cooked("empty a;", 1, 0), 0, 0, 0, 20, 0);
        look("empty all", cooked("pour 9 water into a; pour 9 meal into a; heat a to 100; boil a for 9; empty a;", 20, 0), 0, 0, 0, 20, 0);
        look("empty a full pan", cooked("pour 100 water into a; empty a;", 2, 0), 0, 0, 0, 20, 0);
        look("empty what is hot and dry", cooked("pour 1 water into a; heat a to 100; boil a for 5; empty a;", 15, 0), 0, 0, 0, 20, 0);
        look("not the others", cooked("pour 9 meal into b; heat b to 50; empty a; empty c;", 6, 0), 1, 0, 9, 50, 0);
        Check.due("room behind empty", cooked("pour 100 water into a; empty a;", 2, 0).roomIn(0), 100);
    }

    /** "as many minutes as the value is (less than 0 counts as 0, more than 600 as 600)" */
    private static void valueOfRest() {
        String[] values = {"0", "1", "2", "599", "600", "601", "999", MOST, "(0-1)", "(0-600)", LEAST};
        int[] minutes = {0, 1, 2, 599, 600, 600, 600, 600, 0, 0, 0};
        for (int i = 0; i < values.length; i++) {
            Check.due("minute", cooked("rest " + values[i] + ";", minutes[i], 0).minute(), minutes[i]);
        }
        HighRecipes x = kitchen("rest 9;");
        x.setServings(12);
        x.setSpoon(10);
        x.setAltitude(60);
        cook(x, "rest is not translated", 9, 0);
    }

    // ---- again, if

    /** "as often as the value is ... (not at all, if that is less than 1)" */
    private static void valueOfAgain() {
        String[] values = {"0", "1", "2", "3", "(0-1)", "(0-99)", LEAST, MOST, QUARTER};
        int[] times = {0, 1, 2, 3, 0, 0, 0, 99, 99};
        for (int i = 0; i < values.length; i++) {
            cooked("again " + values[i] + " (rest 1;)", times[i], 0);
        }
        for (String value : new String[] {"0", "1", "999", MOST, LEAST}) {
            cooked("again " + value + " () rest 5;", 5, 0);
            cooked("again " + value + " (again " + MOST + " ()) rest 5;", value.equals("999") || value.equals(MOST) ? 0 : 5, 0);
        }
        cooked("again 98 (again " + MOST + " ()) rest 5;", 5, 0);
        cooked("again 99 (again " + MOST + " ()) rest 5;", 0, 0);
    }

    /** "as the value is as it begins" */
    private static void valueOfAgainAsItBegins() {
        cooked("rest 2; again minute (rest 1;)", 4, 0);
        cooked("again minute (rest 1;)", 0, 0);
        cooked("again room of b (pour 1 water into b;)", 20, 0);
        cooked("rest 3; again (5-minute) (rest 3;)", 9, 0);
    }

    private static void chosen(String compares, int minutes) {
        cooked("if " + compares + " (rest 1;) else (rest 2;)", minutes, 0);
        cooked("if " + compares + " (rest 1;)", minutes == 1 ? 1 : 0, 0);
        cooked("if " + compares + " () else (rest 2;)", minutes == 1 ? 0 : 2, 0);
    }

    /** "compare = value sign value, with one of the signs < > =" */
    private static void comparesOfIf() {
        chosen("4<5", 1);
        chosen("5<5", 2);
        chosen("6<5", 2);
        chosen("4>5", 2);
        chosen("5>5", 2);
        chosen("6>5", 1);
        chosen("4=5", 2);
        chosen("5=5", 1);
        chosen("6=5", 2);
        chosen(LEAST + "<" + MOST, 1);
        chosen(LEAST + ">" + MOST, 2);
        chosen(MOST + ">" + LEAST, 1);
        chosen("(0-1)<0", 1);
    }

    /** "if all compares are so" */
    private static void allComparesOfIf() {
        for (int wrong = 0; wrong < 8; wrong++) {
            String first = (wrong & 1) == 0 ? "1<2" : "2<1";
            String second = (wrong & 2) == 0 ? " and 2>1" : " and 1>2";
            String third = (wrong & 4) == 0 ? " and 3=3" : " and 3=4";
            chosen(first + second + third, wrong == 0 ? 1 : 2);
        }
        chosen("1=1" + " and 1=1".repeat(89) + " and 1=2", 2);
        chosen("1=2" + " and 1=1".repeat(90), 2);
        chosen("1=1" + " and 1=1".repeat(90), 1);
    }

    /** "as it begins": what its first block does is all one for the other. */
    private static void comparesAsIfBegins() {
        cooked("if minute=0 (rest 5;) else (rest 50;)", 5, 0);
        cooked("rest 1; if minute=0 (rest 5;) else (rest 50;)", 51, 0);
        cooked("again 2 (if minute=0 (rest 5;) else (rest 50;))", 55, 0);
        cooked("if minute=0 (rest 5; if minute=0 (rest 7;) else (rest 9;)) else (rest 50;)", 14, 0);
    }

    // ---- cooling

    /** "Whenever minutes go by in an act, all pans but that of the act cool" */
    private static void othersCoolInAnAct() {
        String hot = "pour 5 meal into b; heat b to 60; pour 5 water into a; ";
        look("heat for 1 minute", cooked(hot + "heat a to 30;", 7, 0), 1, 0, 5, 60, 0);
        look("heat for 2 minutes", cooked(hot + "heat a to 31;", 8, 0), 1, 0, 5, 59, 0);
        look("heat for 3 minutes", cooked(hot + "heat a to 41;", 9, 0), 1, 0, 5, 59, 0);
        look("pour and empty for a minute each", cooked(hot + "pour 5 water into c; empty c; empty a;", 9, 0), 1, 0, 5, 60, 0);
        look("heat for 8 minutes, boil for 1", cooked(hot + "heat a to 100; boil a for 1;", 15, 0), 1, 0, 5, 56, 0);
        look("heat for 8 minutes, boil for 2", cooked(hot + "heat a to 100; boil a for 2;", 16, 0), 1, 0, 5, 55, 0);
        look("the pan of the act does not", cooked(hot + "heat a to 100; boil a for 25;", 39, 0), 0, 0, 0, 100, 0);
        look("cut by how long it takes", cooked(hot + "heat a to 100; boil a for 99;", 39, 5), 1, 0, 5, 44, 0);
        look("down to 20", cooked(hot + "pour 20 water into a; heat a to 100; boil a for 71;", 86, 0), 1, 0, 5, 21, 0);
        look("down to 20 at most", cooked(hot + "pour 20 water into a; heat a to 100; boil a for 72;", 87, 0), 1, 0, 5, 20, 0);
        look("no more than down to 20", cooked(hot + "pour 20 water into a; heat a to 100; boil a for 99;", 114, 0), 1, 0, 5, 20, 0);
    }

    /** "(rest and by hand: all pans)" */
    private static void allCoolInARest() {
        String hot = "pour 5 meal into b; heat b to 60; pour 5 water into a; heat a to 40; ";
        HighRecipes x = cooked(hot + "rest 10;", 18, 0);
        look("rest cools a", x, 0, 5, 0, 35, 0);
        look("rest cools b", x, 1, 0, 5, 54, 0);
        x.rest(10);
        look("by hand, a", x, 0, 5, 0, 30, 0);
        look("by hand, b", x, 1, 0, 5, 49, 0);
        look("rest for 1 cools by nothing", cooked("pour 5 meal into b; heat b to 60; rest 1;", 6, 0), 1, 0, 5, 60, 0);
        look("rest for 80", cooked("pour 5 meal into b; heat b to 60; rest 80;", 85, 0), 1, 0, 5, 20, 0);
        look("rest for 600", cooked("pour 5 meal into b; heat b to 60; rest 999;", 605, 0), 1, 0, 5, 20, 0);
    }

    /** "warning 3, and nothing else", "warning 4, and nothing else": no minutes, in which others would cool. */
    private static void othersDoNotCoolInNoTime() {
        String hot = "pour 5 meal into b; heat b to 60; ";
        look("heat nothing", cooked(hot + "again 9 (heat a to 100;)", 5, 333333333), 1, 0, 5, 60, 0);
        look("boil nothing", cooked(hot + "again 9 (boil a for 100;)", 5, 444444444), 1, 0, 5, 60, 0);
        look("heat what is hot", cooked(hot + "heat b to 60; heat b to 20;", 5, 0), 1, 0, 5, 60, 0);
    }

    // ---- many calls

    /** "An object is used for at most 512 calls": the last ones still answer, and count all that was ahead of them. */
    private static void manyCalls() {
        HighRecipes x = new HighRecipes();
        Check.type(x, "recipe r (again 99 (rest 600; note minute;))");
        Check.due("teach", x.teach(), 0);
        int calls = 5;
        int times = 0;
        for (; calls < 507; calls++) {
            Check.due("cook " + times, x.cook(0), 50 * 600);
            times++;
        }
        Check.due("minute of many calls", x.minute(), times * 50 * 600);
        Check.due("notes of many calls", x.notes(), times * 49);
        Check.due("latest note of many calls", x.noteAt(0), times * 50 * 600 - 600);
        HighRecipes y = Check.with("pan a holds 1; recipe r (again 99 (boil a for 1;))");
        for (int i = 0; i < 500; i++) {
            y.cook(0);
        }
        Check.due("warnings of many calls", y.warnings(), 500 * 99);
        Check.due("warningsOf of many calls", y.warningsOf(4), 500 * 99);
        Check.due("latest warning of many calls", y.warningAt(0), 4);
    }
}
