/** Promise 35, and '3. Cooking': each act, its minutes and warnings, and in what order acts are begun. */
public final class CookingTest {
    public static void main(String[] args) {
        noSuchRecipe();
        pour();
        heat();
        boil();
        boilHigher();
        boilDry();
        empty();
        rest();
        othersCool();
        again();
        ifElse();
        cookInCook();
        hundredActs();
        deepest("again 1(", "");
        deepest("if 1=1(", "");
        deepest("if 1=2()else(", "");
        deepest("if 1=1(", "else()");
        deepValues();
        Check.done();
    }

    private static void noSuchRecipe() {
        HighRecipes x = Check.with("pan a holds 9; recipe r (rest 5;) recipe s ()");
        Check.index("cook(-1)", () -> x.cook(-1));
        Check.index("cook(2)", () -> x.cook(2));
        Check.index("cook(6)", () -> x.cook(6));
        Check.index("cook(greatest)", () -> x.cook(Integer.MAX_VALUE));
        Check.index("cook(least)", () -> x.cook(Integer.MIN_VALUE));
        Check.due("nothing is changed", x.minute(), 0);
        Check.due("cook of nothing", x.cook(1), 0);
        Check.due("cook(0)", x.cook(0), 5);
        Check.due("cook(0) again", x.cook(0), 5);
        Check.due("minute", x.minute(), 10);
    }

    /** Cooks one recipe, and looks at its minutes and its warnings, as digits from the first one on. */
    private static HighRecipes cooked(HighRecipes x, String what, int minutes, long warned) {
        int before = x.warnings();
        Check.due(what + ": cook", x.cook(x.recipes() - 1), minutes);
        long digits = 0;
        for (int back = x.warnings() - before - 1; back >= 0; back--) {
            digits = digits * 10 + x.warningAt(back);
        }
        Check.due(what + ": warnings", digits, warned);
        return x;
    }

    private static HighRecipes cooked(String acts, int minutes, long warned) {
        return cooked(Check.with("pan a holds 100; pan b holds 20; recipe r (" + acts + ")"), acts, minutes, warned);
    }

    private static void look(String what, HighRecipes x, int pan, int water, int meal, int heat, int done) {
        Check.due(what + ": waterIn " + pan, x.waterIn(pan), water);
        Check.due(what + ": mealIn " + pan, x.mealIn(pan), meal);
        Check.due(what + ": heatOf " + pan, x.heatOf(pan), heat);
        Check.due(what + ": doneIn " + pan, x.doneIn(pan), done);
    }

    private static void pour() {
        look("pour", cooked("pour 30 water into a; pour 20 meal into b;", 2, 0), 0, 30, 0, 20, 0);
        look("pour 0", cooked("pour 0 water into a;", 1, 0), 0, 0, 0, 20, 0);
        look("pour less than 0", cooked("pour (0-9) meal into a;", 1, 0), 0, 0, 0, 20, 0);
        look("pour all", cooked("pour 100 water into a;", 1, 0), 0, 100, 0, 20, 0);
        look("pour one too many", cooked("pour 101 water into a;", 1, 1), 0, 100, 0, 20, 0);
        look("pour much", cooked("pour (999*999) meal into a;", 1, 1), 0, 0, 100, 20, 0);
        look("pour 0 into a full pan", cooked("pour 20 meal into b; pour 0 meal into b; pour 1 water into b;", 3, 1), 1, 0, 20, 20, 0);
        HighRecipes x = Check.with("pan a holds 20; recipe r (pour 9 water into a; pour 4 meal into a;)");
        x.setServings(3);
        x.setSpoon(2);
        look("translated", cooked(x, "translated", 2, 0), 0, 6, 4, 20, 0);
        look("heat is mixed", cooked("pour 3 meal into a; heat a to 90; pour 4 water into a;", 9, 0), 0, 4, 3, 50, 0);
    }

    private static void heat() {
        look("heat nothing", cooked("heat a to 50;", 0, 3), 0, 0, 0, 20, 0);
        look("heat nothing too much", cooked("heat a to 500;", 0, 3), 0, 0, 0, 20, 0);
        look("heat by 30", cooked("pour 1 meal into a; heat a to 50;", 4, 0), 0, 0, 1, 50, 0);
        look("heat by 31", cooked("pour 1 meal into a; heat a to 51;", 5, 0), 0, 0, 1, 51, 0);
        look("heat by 1", cooked("pour 1 meal into a; heat a to 21;", 2, 0), 0, 0, 1, 21, 0);
        look("heat by 0", cooked("pour 1 meal into a; heat a to 20;", 1, 0), 0, 0, 1, 20, 0);
        look("heat to less", cooked("pour 1 meal into a; heat a to 60; heat a to (0-9);", 5, 0), 0, 0, 1, 60, 0);
        look("heat to 100", cooked("pour 1 meal into a; heat a to 100;", 9, 0), 0, 0, 1, 100, 0);
        look("heat to 101", cooked("pour 1 meal into a; heat a to 101;", 9, 2), 0, 0, 1, 100, 0);
        look("heat to 101 twice", cooked("pour 1 meal into a; heat a to 101; heat a to 102;", 9, 22), 0, 0, 1, 100, 0);
        HighRecipes x = Check.with("pan a holds 100; recipe r (pour 5 meal into a; heat a to 95; heat a to 85;)");
        cooked(x, "at 0", 9, 0);
        x.setAltitude(30);
        Check.due("hotter than water could be", x.heatOf(0), 95);
        x.setServings(1);
        // 95 * 5 + 20, by 6
        cooked(x, "at 30", 2, 2);
        look("the boiling point takes its place", x, 0, 0, 6, 90, 0);
    }

    private static void boil() {
        look("boil nothing", cooked("boil a for 5;", 0, 4), 0, 0, 0, 20, 0);
        look("boil cold water", cooked("pour 9 water into a; heat a to 99; boil a for 5;", 9, 4), 0, 9, 0, 99, 0);
        look("boil meal alone", cooked("pour 9 meal into a; heat a to 100; boil a for 5;", 9, 4), 0, 0, 9, 100, 0);
        look("boil water", cooked("pour 9 water into a; heat a to 100; boil a for 14;", 23, 0), 0, 7, 0, 100, 0);
        look("boil 4", cooked("pour 9 water into a; heat a to 100; boil a for 4;", 13, 0), 0, 9, 0, 100, 0);
        look("boil 0", cooked("pour 9 water into a; heat a to 100; boil a for 0;", 9, 0), 0, 9, 0, 100, 0);
        look("boil less than 0", cooked("pour 9 water into a; heat a to 100; boil a for (0-5);", 9, 0), 0, 9, 0, 100, 0);
        String both = "pour 50 water into a; pour 9 meal into a; heat a to 100; ";
        look("boil meal", cooked(both + "boil a for 14;", 24, 0), 0, 48, 9, 100, 14);
        look("boil meal twice", cooked(both + "boil a for 14; boil a for 30;", 54, 0), 0, 42, 9, 100, 44);
        look("done at most", cooked(both + "boil a for 70; boil a for 70;", 150, 0), 0, 22, 9, 100, 100);
        HighRecipes x = Check.with("pan a holds 100; recipe r (pour 50 water into a; heat a to 100; boil a for 20;)");
        x.setServings(2);
        x.setSpoon(10);
        // 25 is as near to 20 as to 30; minutes are not told for servings or spoonfuls
        look("minutes are no amounts", cooked(x, "minutes are no amounts", 1 + 8 + 20, 0), 0, 26, 0, 100, 0);
    }

    private static void boilHigher() {
        HighRecipes x = Check.with("pan a holds 100; recipe r (pour 50 water into a; pour 9 meal into a; heat a to boiling; boil a for 13;)");
        x.setAltitude(30);
        // 13 * 150 / 100, rounded up; 20 * 100 / 150
        look("boil at 30", cooked(x, "boil at 30", 2 + 7 + 20, 0), 0, 46, 9, 90, 13);
        HighRecipes z = Check.with("pan a holds 100; recipe r (pour 50 water into a; pour 1 meal into a; heat a to boiling; boil a for 99;)");
        z.setAltitude(3);
        // 104 minutes: 104 * 100 / 105 is 99
        look("boil at 3", cooked(z, "boil at 3", 2 + 8 + 104, 0), 0, 30, 1, 99, 99);
        HighRecipes y = Check.with("pan a holds 200; recipe r (boil a for 1;) recipe s (heat a to 100;)");
        y.pourMeal(0, 198);
        y.cook(1);
        y.setAltitude(60);
        y.pourWater(0, 1);
        Check.due("hotter than the boiling point", y.heatOf(0), 99);
        Check.due("boils for 2", y.cook(0), 2);
        look("as hot as the boiling point", y, 0, 1, 198, 80, 1);
        Check.due("no warning", y.warnings(), 0);
    }

    private static void boilDry() {
        look("just enough", cooked("pour 3 water into a; heat a to 100; boil a for 15;", 24, 0), 0, 0, 0, 100, 0);
        look("dry", cooked("pour 3 water into a; heat a to 100; boil a for 16;", 24, 5), 0, 0, 0, 100, 0);
        look("dry meal", cooked("pour 3 water into a; pour 2 meal into a; heat a to 100; boil a for 999;", 25, 5), 0, 0, 2, 100, 15);
        look("dry, then nothing", cooked("pour 3 water into a; heat a to 100; boil a for 999; boil a for 1; heat a to 5;", 24, 543), 0, 0, 0, 100, 0);
        look("poured onto dry heat", cooked("pour 3 water into a; heat a to 100; boil a for 999; pour 4 meal into a;", 25, 5), 0, 0, 4, 20, 0);
        HighRecipes x = Check.with("pan a holds 100; recipe r (pour 3 water into a; heat a to 90; boil a for 10;)");
        x.setAltitude(30);
        cooked(x, "15 minutes of 3 spoons", 1 + 7 + 15, 0);
        x.setAltitude(33);
        x.wash(0);
        // 10 * 155 / 100 is 16; 90 is hotter than it can be
        cooked(x, "16 minutes of 3 spoons", 1 + 7 + 15, 25);
    }

    private static void empty() {
        look("empty", cooked("pour 9 meal into a; pour 9 water into a; heat a to 100; boil a for 10; empty a;", 21, 0), 0, 0, 0, 20, 0);
        look("empty nothing", cooked("empty a;", 1, 0), 0, 0, 0, 20, 0);
        look("the other is as it was", cooked("pour 9 meal into b; empty a;", 2, 0), 1, 0, 9, 20, 0);
    }

    private static void rest() {
        cooked("rest 5;", 5, 0);
        cooked("rest 0;", 0, 0);
        cooked("rest (0-1);", 0, 0);
        cooked("rest 600;", 600, 0);
        cooked("rest 601;", 600, 0);
        cooked("rest ((999*999)*999);", 600, 0);
        look("all pans cool", cooked("pour 1 meal into a; heat a to 60; rest 15;", 20, 0), 0, 0, 1, 53, 0);
        look("by all of them at once", cooked("pour 1 meal into a; heat a to 60; rest 1; rest 1; rest 1;", 8, 0), 0, 0, 1, 60, 0);
    }

    private static void othersCool() {
        String hot = "pour 5 meal into b; heat b to 60; ";
        look("pour cools by nothing", cooked(hot + "pour 1 water into a; empty a;", 7, 0), 1, 0, 5, 60, 0);
        look("heat cools others", cooked(hot + "pour 1 water into a; heat a to 75;", 12, 0), 1, 0, 5, 57, 0);
        look("boil cools others", cooked(hot + "pour 9 water into a; heat a to 100; boil a for 21;", 35, 0), 1, 0, 5, 46, 0);
        look("not that of the act", cooked("pour 9 water into a; heat a to 100; boil a for 21;", 30, 0), 0, 5, 0, 100, 0);
        look("no cooling below 20", cooked(hot + "rest 78; rest 4;", 87, 0), 1, 0, 5, 20, 0);
    }

    private static void again() {
        cooked("again 3 (rest 2;)", 6, 0);
        cooked("again 0 (rest 2;)", 0, 0);
        cooked("again (0-3) (rest 2;)", 0, 0);
        cooked("again ((999*999)*999) ()", 0, 0);
        cooked("again ((999*999)*999) (again ((999*999)*999) ())", 0, 0);
        HighRecipes x = cooked("rest 3; again minute (note minute; rest 1;)", 6, 0);
        Check.due("as often as the value is as it begins", x.notes(), 3);
        Check.due("the value within goes on", x.noteAt(0), 5);
        cooked("again 2 (again 3 (rest 1;) rest 10;)", 26, 0);
    }

    private static void ifElse() {
        cooked("if 1<2 (rest 1;) else (rest 2;)", 1, 0);
        cooked("if 2<2 (rest 1;) else (rest 2;)", 2, 0);
        cooked("if 2>1 (rest 1;) else (rest 2;)", 1, 0);
        cooked("if 2>2 (rest 1;) else (rest 2;)", 2, 0);
        cooked("if 2=2 (rest 1;) else (rest 2;)", 1, 0);
        cooked("if 2=1 (rest 1;) else (rest 2;)", 2, 0);
        cooked("if 2=1 (rest 1;)", 0, 0);
        cooked("if 2=1 () else (rest 2;)", 2, 0);
        cooked("if 2=2 () else (rest 2;)", 0, 0);
        cooked("if 1=1 and 2=2 and 3=3 (rest 1;) else (rest 2;)", 1, 0);
        cooked("if 0=1 and 2=2 and 3=3 (rest 1;) else (rest 2;)", 2, 0);
        cooked("if 1=1 and 0=2 and 3=3 (rest 1;) else (rest 2;)", 2, 0);
        cooked("if 1=1 and 2=2 and 0=3 (rest 1;) else (rest 2;)", 2, 0);
        cooked("if (0-1)<0 (rest 1;)", 1, 0);
        cooked("if minute=0 (rest 3; if minute=3 (rest 4;)) else (rest 9;)", 7, 0);
        cooked("if 1=1 (if 1=2 (rest 3;) else (rest 5;)) else (rest 9;)", 5, 0);
    }

    private static void cookInCook() {
        HighRecipes x = Check.with("recipe a (rest 1; note 1;) recipe b (cook a; rest 10; cook a; note 2;) recipe c (again 2 (cook b;) note 3;)");
        Check.due("cook(2)", x.cook(2), 24);
        int[] latest = {3, 2, 1, 1, 2, 1, 1};
        for (int back = 0; back < latest.length; back++) {
            Check.due("noteAt " + back, x.noteAt(back), latest[back]);
        }
        Check.due("cook(0)", x.cook(0), 1);
    }

    private static void hundredActs() {
        Check.due("99 rests", cooked("again 999 (rest 1;)", 99, 0).minute(), 99);
        cooked("again 999 (again 1 (rest 1;))", 49, 0);
        cooked("again 999 (if 1=1 (rest 1;))", 49, 0);
        HighRecipes x = Check.with("recipe a (rest 1;) recipe b (again 32 (cook a; rest 1; note 1;) note 2; note 3; rest 5;)");
        // again is 1; 24 times 4 are 96; then cook, rest, rest: 100
        Check.due("cook", x.cook(1), 50);
        Check.due("notes", x.notes(), 24);
        Check.due("each cooking begins anew", x.cook(1), 50);
        cooked("again 98 (rest 1;) rest 1; rest 1;", 99, 0);
        cooked("again 97 (rest 1;) rest 1; rest 1; rest 1;", 99, 0);
        // the 100th act is done, the acts of its block are not begun
        cooked("again 98 (rest 1;) again 5 (rest 1;)", 98, 0);
        cooked("again 98 (rest 1;) if 1=2 (rest 1;) else (rest 1;)", 98, 0);
        cooked("again 98 (rest 1;) rest 5; rest 1;", 103, 0);
    }

    /** Six recipes of six blocks in each other, each cooking the one before in its innermost block. */
    private static void deepest(String open, String behind) {
        StringBuilder book = new StringBuilder();
        for (char name = 'a'; name <= 'f'; name++) {
            book.append("recipe ").append(name).append('(').append(open.repeat(5));
            book.append(name == 'a' ? "rest 7;" : "cook " + (char) (name - 1) + ";");
            book.append((")" + behind).repeat(5)).append(')');
        }
        HighRecipes x = Check.with(book.toString());
        Check.due("acts of the deepest book of " + open, x.acts(), 36);
        Check.due("cook of the deepest book of " + open, x.cook(5), 7);
        Check.due("minutes of the deepest book of " + open, x.minutesOfRecipe(5), 7);
    }

    /** Values of four values in each other, in each act. */
    private static void deepValues() {
        String five = "((((1+1)+1)+1)+1)";
        look("pour 5", cooked("pour " + five + " water into a;", 1, 0), 0, 5, 0, 20, 0);
        look("heat to 55", cooked("pour 9 meal into a; heat a to ((((1+1)+1)+1)+51);", 5, 0), 0, 0, 9, 55, 0);
        look("boil for 5", cooked("pour 9 water into a; pour 1 meal into a; heat a to 100; boil a for " + five + ";", 15, 0), 0, 8, 1, 100, 5);
        cooked("rest " + five + ";", 5, 0);
        cooked("again " + five + " (rest 1;)", 5, 0);
        cooked("if " + five + "=5 and 5=" + five + " (rest 1;)", 1, 0);
        Check.due("note 5", cooked("note " + five + ";", 0, 0).noteAt(0), 5);
    }
}
