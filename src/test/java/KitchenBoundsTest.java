/** '2. The kitchen' and promises 1, 9 to 34 and 42, sentence by sentence: each bound from both sides. */
public final class KitchenBoundsTest {
    private static final int[] FAR = {Integer.MIN_VALUE, Integer.MIN_VALUE + 1, -1000, 1_000_000, Integer.MAX_VALUE};
    private static final int WATER = 0;
    private static final int MEAL = 1;

    public static void main(String[] args) {
        newKitchen();
        translations();
        settings();
        pans();
        pouring();
        byHand();
        histories();
        meanHeat();
        Check.done();
    }

    private static void translations() {
        altitudesOfBoilingAt();
        boilingPointsOfAllAltitudes();
        minutesOfMinutesAt();
        altitudesOfMinutesAt();
        minutesAreRoundedUp();
        amountsOfAmountFor();
        amountsAreTheNearest();
        halfSpoonfuls();
    }

    private static void settings() {
        altitudesOfSetAltitude();
        hotPansCoolInSetAltitude();
        servingsOfSetServings();
        spoonsOfSetSpoon();
    }

    private static void pans() {
        looksIntoPans();
        pansAreNumberedFrom0();
        noPanInANewObject();
    }

    private static void pouring() {
        pansToPourInto();
        spoonsToPour();
        panIsToldFirst();
        asManyAsThereIsRoomFor();
        heatBehindPouring();
        doneBehindPouring();
        nothingGetsIn();
        noTimeAndNoWarning();
    }

    private static void byHand() {
        pansToWash();
        washOfNothingAndOfAFullPan();
        minutesToRest();
        coolingByHalfTheMinutes();
        coolingDownTo20();
        coolingOnceByAllMinutes();
        hotPansBehindRest();
    }

    private static void histories() {
        kindsOfWarnings();
        for (int count : new int[] {0, 1, 2, 18, 19, 20, 21, 40, 41}) {
            warningsAgo(count);
            notesAgo(count);
        }
    }

    private static void refused(String what, int number, Check.CallOn call) {
        Check.argumentRefused(what + " " + number, Check::busy, call);
        Check.argumentRefused(what + " " + number + " of a new object", HighRecipes::new, call);
    }

    /** "without pans and recipes", and all numbers as they are "at first" */
    private static void newKitchen() {
        HighRecipes x = new HighRecipes();
        Check.due("new: pans", x.pans(), 0);
        Check.due("new: recipes", x.recipes(), 0);
        Check.due("new: altitude", x.altitude(), 0);
        Check.due("new: boilingPoint", x.boilingPoint(), 100);
        Check.due("new: servings", x.servings(), 4);
        Check.due("new: spoon", x.spoon(), 1);
        Check.due("new: minute", x.minute(), 0);
        HighRecipes y = Check.with("pan a holds 7;");
        Check.due("at first: water", y.waterIn(0), 0);
        Check.due("at first: meal", y.mealIn(0), 0);
        Check.due("at first: heat", y.heatOf(0), 20);
        Check.due("at first: done", y.doneIn(0), 0);
        Check.due("at first: room", y.roomIn(0), 7);
    }

    // ---- translations

    /** boilingAt: "if altitude is not 0 to 60" */
    private static void altitudesOfBoilingAt() {
        refused("boilingAt", -1, x -> x.boilingAt(-1));
        refused("boilingAt", 61, x -> x.boilingAt(61));
        for (int far : FAR) {
            refused("boilingAt", far, x -> x.boilingAt(far));
        }
        Check.due("boilingAt 0", new HighRecipes().boilingAt(0), 100);
        Check.due("boilingAt 60", new HighRecipes().boilingAt(60), 80);
    }

    /** "100 less altitude / 3" */
    private static void boilingPointsOfAllAltitudes() {
        HighRecipes x = new HighRecipes();
        int boiling = 100;
        for (int altitude = 0; altitude <= 60; altitude++) {
            boiling -= altitude == 0 || altitude % 3 != 0 ? 0 : 1;
            Check.due("boilingAt " + altitude, x.boilingAt(altitude), boiling);
            x.setAltitude(altitude);
            Check.due("boilingPoint at " + altitude, x.boilingPoint(), boiling);
            Check.due("altitude " + altitude, x.altitude(), altitude);
        }
    }

    /** minutesAt: "if minutes is not 0 to 999" */
    private static void minutesOfMinutesAt() {
        for (int altitude : new int[] {0, 60}) {
            refused("minutesAt", -1, x -> x.minutesAt(-1, altitude));
            refused("minutesAt", 1000, x -> x.minutesAt(1000, altitude));
            for (int far : FAR) {
                refused("minutesAt", far, x -> x.minutesAt(far, altitude));
            }
            Check.due("minutesAt(0, " + altitude + ")", new HighRecipes().minutesAt(0, altitude), 0);
        }
        Check.due("minutesAt(999, 0)", new HighRecipes().minutesAt(999, 0), 999);
        Check.due("minutesAt(999, 60)", new HighRecipes().minutesAt(999, 60), 1998);
    }

    /** minutesAt: "or altitude is not 0 to 60" */
    private static void altitudesOfMinutesAt() {
        for (int minutes : new int[] {-1, 0, 999, 1000}) {
            refused("minutesAt " + minutes + ", altitude", -1, x -> x.minutesAt(minutes, -1));
            refused("minutesAt " + minutes + ", altitude", 61, x -> x.minutesAt(minutes, 61));
            for (int far : FAR) {
                refused("minutesAt " + minutes + ", altitude", far, x -> x.minutesAt(minutes, far));
            }
        }
    }

    /** "multiplied by 100, and 5 more for each degree by which the boiling point is less than 100, and divided by 100, rounded up" */
    private static void minutesAreRoundedUp() {
        int[][] known = {{19, 3, 20}, {20, 3, 21}, {21, 3, 23}, {1, 2, 1}, {1, 3, 2}, {1, 60, 2}, {10, 6, 11}, {11, 6, 13}};
        for (int[] row : known) {
            Check.due("minutesAt " + row[0] + ", " + row[1], new HighRecipes().minutesAt(row[0], row[1]), row[2]);
        }
        for (int altitude = 0; altitude <= 60; altitude++) {
            HighRecipes x = new HighRecipes();
            for (int minutes = 0; minutes <= 999; minutes++) {
                int hundredths = minutes * (100 + 5 * (altitude / 3));
                int got = x.minutesAt(minutes, altitude);
                if (got * 100 < hundredths || (got - 1) * 100 >= hundredths) {
                    Check.due("minutesAt " + minutes + ", " + altitude, got, (hundredths + 99) / 100);
                }
            }
        }
    }

    /** amountFor: "if spoons is not 0 to 999" */
    private static void amountsOfAmountFor() {
        refused("amountFor", -1, x -> x.amountFor(-1));
        refused("amountFor", 1000, x -> x.amountFor(1000));
        for (int far : FAR) {
            refused("amountFor", far, x -> x.amountFor(far));
        }
        HighRecipes x = new HighRecipes();
        Check.due("amountFor 0", x.amountFor(0), 0);
        Check.due("amountFor 999", x.amountFor(999), 999);
        x.setServings(12);
        x.setSpoon(10);
        Check.due("amountFor 0 for 12 by 10", x.amountFor(0), 0);
        Check.due("amountFor 999 for 12 by 10", x.amountFor(999), 3000);
    }

    /** "that multiple of the spoonful which is the nearest to the amount times the number ..., divided by 4 (not cut)" */
    private static void amountsAreTheNearest() {
        for (int servings = 1; servings <= 12; servings++) {
            for (int spoon = 1; spoon <= 10; spoon++) {
                HighRecipes x = new HighRecipes();
                x.setServings(servings);
                x.setSpoon(spoon);
                for (int told = 0; told <= 999; told++) {
                    int got = x.amountFor(told);
                    // how much it is too great, in quarters: at most a half spoonful, and not that much too small
                    int over = 4 * got - told * servings;
                    if (got % spoon != 0 || over > 2 * spoon || over <= -2 * spoon) {
                        Check.due("amountFor " + told + " for " + servings + " by " + spoon + " is the nearest", got, -1);
                    }
                }
            }
        }
    }

    /** "of two as near the greater one" */
    private static void halfSpoonfuls() {
        // servings, spoon, told, translated: just below a half, the half, just above it
        int[][] known = {
            {1, 1, 1, 0}, {1, 1, 2, 1}, {1, 1, 3, 1}, {2, 1, 0, 0}, {2, 1, 1, 1}, {2, 1, 2, 1}, {6, 1, 1, 2}, {6, 1, 3, 5},
            {4, 2, 0, 0}, {4, 2, 1, 2}, {4, 2, 2, 2}, {4, 2, 3, 4}, {4, 10, 4, 0}, {4, 10, 5, 10}, {4, 10, 6, 10},
            {4, 10, 994, 990}, {4, 10, 995, 1000}, {1, 10, 19, 0}, {1, 10, 20, 10}, {1, 10, 21, 10}, {5, 10, 3, 0}, {5, 10, 4, 10},
            {1, 2, 3, 0}, {1, 2, 4, 2}, {1, 2, 5, 2}, {3, 3, 1, 0}, {3, 3, 2, 3}, {3, 3, 5, 3}, {3, 3, 6, 6}, {12, 6, 0, 0}, {12, 6, 1, 6},
        };
        for (int[] row : known) {
            HighRecipes x = new HighRecipes();
            x.setServings(row[0]);
            x.setSpoon(row[1]);
            Check.due("amountFor " + row[2] + " for " + row[0] + " by " + row[1], x.amountFor(row[2]), row[3]);
        }
    }

    // ---- settings

    /** setAltitude: "if altitude is not 0 to 60" */
    private static void altitudesOfSetAltitude() {
        refused("setAltitude", -1, x -> x.setAltitude(-1));
        refused("setAltitude", 61, x -> x.setAltitude(61));
        for (int far : FAR) {
            refused("setAltitude", far, x -> x.setAltitude(far));
        }
        HighRecipes x = Check.busy();
        Check.due("setAltitude(60)", x.setAltitude(60), 7);
        Check.due("altitude 60", x.altitude(), 60);
        Check.due("setAltitude(0)", x.setAltitude(0), 60);
        Check.due("altitude 0", x.altitude(), 0);
        Check.due("setAltitude(0) again", x.setAltitude(0), 0);
    }

    /** One pan with so much in it, at this heat; the recipe 0 heats it. */
    private static HighRecipes hot(int water, int meal, int heat) {
        HighRecipes x = Check.with("pan a holds 200; recipe r (heat a to " + heat + ";) recipe s (boil a for 999;)");
        if (water > 0) {
            x.pourWater(0, water);
        }
        if (meal > 0) {
            x.pourMeal(0, meal);
        }
        x.cook(0);
        Check.due("heated to " + heat, x.heatOf(0), heat);
        return x;
    }

    /** "pans with water that are hotter than the boiling point there are as hot as that then" */
    private static void hotPansCoolInSetAltitude() {
        // water, meal, heat, altitude, heat then
        int[][] known = {
            {1, 0, 89, 30, 89}, {1, 0, 90, 30, 90}, {1, 0, 91, 30, 90}, {1, 5, 91, 30, 90}, {200, 0, 100, 60, 80}, {0, 1, 91, 30, 91},
            {0, 200, 100, 60, 100}, {1, 0, 100, 2, 100}, {1, 0, 100, 3, 99}, {1, 0, 81, 60, 80}, {1, 0, 80, 60, 80}, {1, 0, 100, 0, 100},
        };
        for (int[] row : known) {
            HighRecipes x = hot(row[0], row[1], row[2]);
            x.setAltitude(row[3]);
            Check.due(row[0] + " of water at " + row[2] + ", set to " + row[3], x.heatOf(0), row[4]);
            x.setAltitude(0);
            Check.due("and set back", x.heatOf(0), row[4]);
        }
        // empty, but hot: it has boiled dry
        HighRecipes dry = hot(1, 0, 100);
        dry.cook(1);
        Check.due("boiled dry", dry.waterIn(0), 0);
        dry.setAltitude(60);
        Check.due("a hot pan with nothing in it", dry.heatOf(0), 100);
        // water poured onto hot meal: as hot as before until the kitchen is set, also to where it lies
        HighRecipes mixed = hot(0, 199, 100);
        mixed.setAltitude(60);
        mixed.pourWater(0, 1);
        Check.due("water in hot meal", mixed.heatOf(0), 99);
        mixed.setAltitude(60);
        Check.due("water in hot meal, set to the same altitude", mixed.heatOf(0), 80);
    }

    /** setServings: "if servings is not 1 to 12" */
    private static void servingsOfSetServings() {
        refused("setServings", 0, x -> x.setServings(0));
        refused("setServings", -1, x -> x.setServings(-1));
        refused("setServings", 13, x -> x.setServings(13));
        for (int far : FAR) {
            refused("setServings", far, x -> x.setServings(far));
        }
        HighRecipes x = Check.busy();
        Check.due("setServings(12)", x.setServings(12), 5);
        Check.due("servings 12", x.servings(), 12);
        Check.due("setServings(1)", x.setServings(1), 12);
        Check.due("servings 1", x.servings(), 1);
    }

    /** setSpoon: "if spoon is not 1 to 10" */
    private static void spoonsOfSetSpoon() {
        refused("setSpoon", 0, x -> x.setSpoon(0));
        refused("setSpoon", -1, x -> x.setSpoon(-1));
        refused("setSpoon", 11, x -> x.setSpoon(11));
        for (int far : FAR) {
            refused("setSpoon", far, x -> x.setSpoon(far));
        }
        HighRecipes x = Check.busy();
        Check.due("setSpoon(10)", x.setSpoon(10), 2);
        Check.due("spoon 10", x.spoon(), 10);
        Check.due("setSpoon(1)", x.setSpoon(1), 10);
        Check.due("spoon 1", x.spoon(), 1);
    }

    // ---- pans

    private static HighRecipes eightPans() {
        StringBuilder book = new StringBuilder();
        for (int i = 0; i < 8; i++) {
            book.append("pan ").append((char) ('a' + i)).append(" holds ").append(11 + i).append(';');
        }
        return Check.with(book.toString());
    }

    private static void noSuchPan(String what, Check.Maker maker, int pan) {
        Check.indexRefused(what + " holdsOf " + pan, maker, x -> x.holdsOf(pan));
        Check.indexRefused(what + " waterIn " + pan, maker, x -> x.waterIn(pan));
        Check.indexRefused(what + " mealIn " + pan, maker, x -> x.mealIn(pan));
        Check.indexRefused(what + " heatOf " + pan, maker, x -> x.heatOf(pan));
        Check.indexRefused(what + " doneIn " + pan, maker, x -> x.doneIn(pan));
        Check.indexRefused(what + " roomIn " + pan, maker, x -> x.roomIn(pan));
    }

    /** Promises 14 to 19: "if there is no such pan" */
    private static void looksIntoPans() {
        for (int pan : new int[] {-1, 2, 3, 7, 8}) {
            noSuchPan("two pans:", Check::busy, pan);
        }
        for (int far : FAR) {
            noSuchPan("two pans:", Check::busy, far);
            noSuchPan("eight pans:", KitchenBoundsTest::eightPans, far);
        }
        noSuchPan("eight pans:", KitchenBoundsTest::eightPans, -1);
        noSuchPan("eight pans:", KitchenBoundsTest::eightPans, 8);
    }

    /** "Pans are numbered from 0 in the order in which the book has them." */
    private static void pansAreNumberedFrom0() {
        HighRecipes x = eightPans();
        for (int pan = 0; pan < 8; pan++) {
            Check.due("holdsOf " + pan, x.holdsOf(pan), 11 + pan);
            Check.due("pourWater " + pan, x.pourWater(pan, pan + 1), pan + 1);
            Check.due("pourMeal " + pan, x.pourMeal(pan, 2), 2);
        }
        for (int pan = 0; pan < 8; pan++) {
            Check.due("waterIn " + pan, x.waterIn(pan), pan + 1);
            Check.due("mealIn " + pan, x.mealIn(pan), 2);
            Check.due("roomIn " + pan, x.roomIn(pan), 8);
            Check.due("wash " + pan, x.wash(pan), pan + 3);
            Check.due("roomIn " + pan + " behind wash", x.roomIn(pan), 11 + pan);
        }
    }

    private static void noPanInANewObject() {
        for (int pan : new int[] {-1, 0, 1, 7, 8}) {
            noSuchPan("a new object:", HighRecipes::new, pan);
            Check.indexRefused("a new object: wash " + pan, HighRecipes::new, x -> x.wash(pan));
            Check.indexRefused("a new object: pourWater " + pan, HighRecipes::new, x -> x.pourWater(pan, 1));
            Check.indexRefused("a new object: pourMeal " + pan, HighRecipes::new, x -> x.pourMeal(pan, 1));
        }
    }

    // ---- pouring

    /** Promises 31 and 32: "if there is no such pan" */
    private static void pansToPourInto() {
        for (int pan : new int[] {-1, 2, 8, Integer.MAX_VALUE, Integer.MIN_VALUE}) {
            Check.indexRefused("pourWater " + pan, Check::busy, x -> x.pourWater(pan, 1));
            Check.indexRefused("pourMeal " + pan, Check::busy, x -> x.pourMeal(pan, 1));
        }
        Check.indexRefused("pourWater 8 of 8", KitchenBoundsTest::eightPans, x -> x.pourWater(8, 200));
        Check.indexRefused("pourMeal 8 of 8", KitchenBoundsTest::eightPans, x -> x.pourMeal(8, 200));
        Check.due("pourWater 7 of 8", eightPans().pourWater(7, 1), 1);
        Check.due("pourMeal 7 of 8", eightPans().pourMeal(7, 1), 1);
    }

    /** "if spoons is not 1 to 200" */
    private static void spoonsToPour() {
        for (int spoons : new int[] {-200, -1, 0, 201, 202, 999, Integer.MAX_VALUE, Integer.MIN_VALUE}) {
            for (int pan = 0; pan < 2; pan++) {
                int number = pan;
                Check.argumentRefused("pourWater " + pan + " " + spoons, Check::busy, x -> x.pourWater(number, spoons));
                Check.argumentRefused("pourMeal " + pan + " " + spoons, Check::busy, x -> x.pourMeal(number, spoons));
            }
        }
        for (int spoons : new int[] {1, 2, 199, 200}) {
            Check.due("pourWater " + spoons, Check.with("pan a holds 200;").pourWater(0, spoons), spoons);
            Check.due("pourMeal " + spoons, Check.with("pan a holds 200;").pourMeal(0, spoons), spoons);
        }
    }

    /** "If several exceptions apply, the one that is named first is thrown." */
    private static void panIsToldFirst() {
        for (int spoons : new int[] {-1, 0, 201, Integer.MIN_VALUE, Integer.MAX_VALUE}) {
            for (int pan : new int[] {-1, 2, Integer.MIN_VALUE, Integer.MAX_VALUE}) {
                Check.indexRefused("pourWater " + pan + " " + spoons, Check::busy, x -> x.pourWater(pan, spoons));
                Check.indexRefused("pourMeal " + pan + " " + spoons, Check::busy, x -> x.pourMeal(pan, spoons));
            }
        }
    }

    private static int pour(HighRecipes x, int what, int spoons) {
        return what == WATER ? x.pourWater(0, spoons) : x.pourMeal(0, spoons);
    }

    /** "as many get in as there is room for" */
    private static void asManyAsThereIsRoomFor() {
        // holds, what is poured first, what then, what of it gets in
        int[][] known = {{20, 7, 12, 12}, {20, 7, 13, 13}, {20, 7, 14, 13}, {20, 19, 1, 1}, {20, 19, 2, 1}, {20, 20, 1, 0}, {20, 20, 200, 0},
            {1, 1, 1, 0}, {2, 1, 1, 1}, {200, 1, 199, 199}, {200, 1, 200, 199}, {200, 200, 200, 0}};
        for (int[] row : known) {
            for (int kinds = 0; kinds < 4; kinds++) {
                int first = kinds / 2;
                int then = kinds % 2;
                HighRecipes x = Check.with("pan a holds " + row[0] + ";");
                String what = "of " + row[0] + ": " + row[1] + " and " + row[2];
                Check.due(what, pour(x, first, row[1]), row[1]);
                Check.due(what + ": then", pour(x, then, row[2]), row[3]);
                Check.due(what + ": water", x.waterIn(0), (first == WATER ? row[1] : 0) + (then == WATER ? row[3] : 0));
                Check.due(what + ": meal", x.mealIn(0), (first == MEAL ? row[1] : 0) + (then == MEAL ? row[3] : 0));
                Check.due(what + ": room", x.roomIn(0), row[0] - row[1] - row[3]);
            }
        }
        Check.due("more than a pan holds", Check.with("pan a holds 1;").pourWater(0, 200), 1);
        Check.due("just what a pan holds", Check.with("pan a holds 199;").pourMeal(0, 199), 199);
    }

    /** "its heat is (heat * what was in it + 20 * what gets in) / (both added)" */
    private static void heatBehindPouring() {
        // water, meal, heat, spoons, heat then
        int[][] known = {{7, 0, 96, 4, 68}, {4, 3, 96, 4, 68}, {1, 0, 100, 1, 60}, {1, 0, 21, 1, 20}, {0, 1, 99, 199, 20}, {0, 1, 100, 79, 21},
            {0, 1, 100, 80, 20}, {199, 0, 100, 1, 99}, {199, 0, 100, 200, 99}, {2, 0, 21, 1, 20}, {5, 5, 20, 5, 20}};
        for (int[] row : known) {
            for (int kind = 0; kind < 2; kind++) {
                HighRecipes x = hot(row[0], row[1], row[2]);
                pour(x, kind, row[3]);
                Check.due("heat of " + (row[0] + row[1]) + " at " + row[2] + " and " + row[3], x.heatOf(0), row[4]);
            }
        }
        // into a hot pan with nothing in it
        HighRecipes dry = hot(1, 0, 100);
        dry.cook(1);
        dry.pourWater(0, 1);
        Check.due("what is poured into a dry pan", dry.heatOf(0), 20);
    }

    private static HighRecipes doneMeal(int meal, int done) {
        HighRecipes x = Check.with("pan a holds 200; recipe r (heat a to 100; boil a for " + done + ";)");
        x.pourWater(0, done / 5 + 1);
        x.pourMeal(0, meal);
        x.cook(0);
        Check.due("done by " + done, x.doneIn(0), done);
        return x;
    }

    /** "and if it is meal, the pan is done by done * the meal that was in it / the meal that is in it then" */
    private static void doneBehindPouring() {
        // meal, done, spoons, done then
        int[][] known = {{10, 50, 7, 29}, {1, 100, 1, 50}, {1, 100, 99, 1}, {1, 100, 100, 0}, {100, 100, 1, 99}, {3, 0, 5, 0}, {10, 1, 1, 0}};
        for (int[] row : known) {
            HighRecipes x = doneMeal(row[0], row[1]);
            Check.due("meal", x.pourMeal(0, row[2]), row[2]);
            Check.due("done behind " + row[2] + " of meal", x.doneIn(0), row[3]);
            HighRecipes y = doneMeal(row[0], row[1]);
            y.pourWater(0, row[2]);
            Check.due("done behind " + row[2] + " of water", y.doneIn(0), row[1]);
        }
        // only what gets in counts: of 200 there is room for 179
        HighRecipes z = doneMeal(20, 100);
        z.pourMeal(0, 200);
        Check.due("meal that gets in", z.mealIn(0), 199);
        Check.due("done behind what gets in", z.doneIn(0), 10);
    }

    /** "If some do": with none, heat and done stay. */
    private static void nothingGetsIn() {
        for (int kind = 0; kind < 2; kind++) {
            HighRecipes x = doneMeal(100, 80);
            x.pourWater(0, 200);
            x.cook(0);
            x.pourMeal(0, 200);
            int heat = x.heatOf(0);
            int done = x.doneIn(0);
            String before = State.of(x);
            Check.due("room of a full pan", x.roomIn(0), 0);
            Check.due("is hot and done", heat > 20 && done > 0 ? 1 : 0, 1);
            Check.due("into a full pan", pour(x, kind, 1), 0);
            Check.due("much into a full pan", pour(x, kind, 200), 0);
            Check.due("all behind it", State.of(x), before);
        }
    }

    /** "just as many spoons, without a warning, and no time goes by" */
    private static void noTimeAndNoWarning() {
        HighRecipes x = Check.with("pan a holds 20;");
        x.setServings(12);
        x.setSpoon(10);
        Check.due("just as many of water", x.pourWater(0, 7), 7);
        Check.due("just as many of meal", x.pourMeal(0, 6), 6);
        Check.due("too many", x.pourMeal(0, 200), 7);
        Check.due("warnings by hand", x.warnings(), 0);
        Check.due("minute by hand", x.minute(), 0);
    }

    // ---- by hand

    /** wash: "if there is no such pan" */
    private static void pansToWash() {
        for (int pan : new int[] {-1, 2, 7, 8, Integer.MAX_VALUE, Integer.MIN_VALUE}) {
            Check.indexRefused("wash " + pan, Check::busy, x -> x.wash(pan));
        }
        Check.indexRefused("wash 8 of 8", KitchenBoundsTest::eightPans, x -> x.wash(8));
        Check.indexRefused("wash -1 of 8", KitchenBoundsTest::eightPans, x -> x.wash(-1));
    }

    /** "Empties a pan, in no time"; "how much water and meal was in it" */
    private static void washOfNothingAndOfAFullPan() {
        HighRecipes x = doneMeal(100, 80);
        x.pourWater(0, 200);
        int minute = x.minute();
        Check.due("wash of a full pan", x.wash(0), 200);
        Check.due("washed: water", x.waterIn(0), 0);
        Check.due("washed: meal", x.mealIn(0), 0);
        Check.due("washed: heat", x.heatOf(0), 20);
        Check.due("washed: done", x.doneIn(0), 0);
        Check.due("washed: room", x.roomIn(0), 200);
        Check.due("wash of nothing", x.wash(0), 0);
        x.pourWater(0, 1);
        Check.due("wash of a spoon", x.wash(0), 1);
        Check.due("washed in no time", x.minute(), minute);
        HighRecipes dry = hot(1, 0, 100);
        dry.cook(1);
        Check.due("wash of a hot pan with nothing in it", dry.wash(0), 0);
        Check.due("and its heat", dry.heatOf(0), 20);
    }

    /** rest: "if minutes is not 1 to 600" */
    private static void minutesToRest() {
        refused("rest", -1, x -> x.rest(-1));
        refused("rest", 0, x -> x.rest(0));
        refused("rest", 601, x -> x.rest(601));
        for (int far : FAR) {
            refused("rest", far, x -> x.rest(far));
        }
        for (int minutes : new int[] {1, 2, 599, 600}) {
            HighRecipes x = new HighRecipes();
            Check.due("rest " + minutes + " without pans", x.rest(minutes), 0);
            Check.due("minute behind rest " + minutes, x.minute(), minutes);
            HighRecipes y = Check.busy();
            int before = y.minute();
            y.rest(minutes);
            Check.due("minute behind rest " + minutes + " of a busy one", y.minute(), before + minutes);
        }
    }

    private static void cooled(int heat, int minutes, int due) {
        for (int kind = 0; kind < 2; kind++) {
            HighRecipes x = hot(kind == WATER ? 1 : 0, kind == MEAL ? 1 : 0, heat);
            Check.due("hot pans behind rest " + minutes + " of " + heat, x.rest(minutes), due > 20 ? 1 : 0);
            Check.due("heat behind rest " + minutes + " of " + heat, x.heatOf(0), due);
        }
    }

    /** "pans cool: by minutes / 2" */
    private static void coolingByHalfTheMinutes() {
        cooled(60, 1, 60);
        cooled(60, 2, 59);
        cooled(60, 3, 59);
        cooled(60, 4, 58);
        cooled(100, 99, 51);
        cooled(100, 100, 50);
    }

    /** "down to 20" */
    private static void coolingDownTo20() {
        cooled(60, 78, 21);
        cooled(60, 79, 21);
        cooled(60, 80, 20);
        cooled(60, 81, 20);
        cooled(60, 82, 20);
        cooled(60, 600, 20);
        cooled(20, 1, 20);
        cooled(20, 2, 20);
        cooled(21, 1, 21);
        cooled(21, 2, 20);
        cooled(21, 4, 20);
        cooled(100, 159, 21);
        cooled(100, 160, 20);
    }

    /** "all pans cool, once, by all of them" */
    private static void coolingOnceByAllMinutes() {
        HighRecipes x = hot(1, 0, 60);
        for (int i = 0; i < 9; i++) {
            x.rest(1);
        }
        Check.due("9 times a minute", x.heatOf(0), 60);
        x.rest(9);
        Check.due("9 minutes", x.heatOf(0), 56);
        x.rest(3);
        x.rest(3);
        Check.due("twice 3 minutes", x.heatOf(0), 54);
        Check.due("all their minutes", x.minute(), 4 + 9 + 9 + 6);
    }

    /** "how many pans are hotter than 20 then" */
    private static void hotPansBehindRest() {
        StringBuilder book = new StringBuilder();
        StringBuilder heats = new StringBuilder();
        for (char pan = 'a'; pan < 'i'; pan++) {
            book.append("pan ").append(pan).append(" holds 9;");
            heats.append("heat ").append(pan).append(" to 100;");
        }
        HighRecipes x = Check.with(book + "recipe r (" + heats + ")");
        for (int pan = 0; pan < 8; pan++) {
            x.pourMeal(pan, 1);
        }
        x.cook(0);
        // 8 minutes each: the one that is heated next is hotter by 4
        for (int pan = 0; pan < 8; pan++) {
            Check.due("heat of " + pan, x.heatOf(pan), 72 + 4 * pan);
        }
        Check.due("all are hot", x.rest(1), 8);
        Check.due("one at 21", x.rest(102), 8);
        Check.due("the least hot one", x.heatOf(0), 21);
        Check.due("one at 20", x.rest(2), 7);
        Check.due("the next ones", x.rest(8), 6);
        Check.due("the last one at 22", x.rest(44), 1);
        Check.due("the last one at 21", x.rest(3), 1);
        Check.due("the last one at 20", x.rest(2), 0);
    }

    // ---- warnings and notes

    /** warningsOf: "if kind is not 1 to 5" */
    private static void kindsOfWarnings() {
        refused("warningsOf", -1, x -> x.warningsOf(-1));
        refused("warningsOf", 0, x -> x.warningsOf(0));
        refused("warningsOf", 6, x -> x.warningsOf(6));
        for (int far : FAR) {
            refused("warningsOf", far, x -> x.warningsOf(far));
        }
        HighRecipes x = Check.with("pan a holds 3; recipe r (heat a to 1; again 2 (boil a for 1;) again 3 (pour 9 water into a;)"
            + "again 4 (heat a to 101;) again 5 (boil a for 99; pour 3 water into a; heat a to 100;))");
        x.cook(0);
        int[] due = {0, 3, 4, 1, 2, 5};
        for (int kind = 1; kind <= 5; kind++) {
            Check.due("warningsOf " + kind, x.warningsOf(kind), due[kind]);
        }
        Check.due("warnings in all", x.warnings(), 15);
    }

    /** So many warnings, of the kinds 3, 4, 3, 4 and so on, and as many notes, 7, 8, 9 and so on. */
    private static HighRecipes told(int count) {
        HighRecipes x = Check.with("pan a holds 1; recipe r (note (7+minute); if (minute-((minute/2)*2))=0 (heat a to 1;) else (boil a for 1;)"
            + "rest 1;)");
        for (int i = 0; i < count; i++) {
            x.cook(0);
        }
        Check.due("warnings", x.warnings(), count);
        Check.due("notes", x.notes(), count);
        return x;
    }

    /** warningAt: "if back is not 0 to 19, or there were not so many" */
    private static void warningsAgo(int count) {
        int kept = Math.min(20, count);
        HighRecipes x = told(count);
        for (int back = 0; back < kept; back++) {
            Check.due("warningAt " + back + " of " + count, x.warningAt(back), (count - 1 - back) % 2 == 0 ? 3 : 4);
        }
        for (int back : new int[] {-1, kept, kept + 1, 20, 21, count + 20, Integer.MAX_VALUE, Integer.MIN_VALUE}) {
            Check.indexRefused("warningAt " + back + " of " + count, () -> told(count), y -> y.warningAt(back));
        }
    }

    /** noteAt: likewise */
    private static void notesAgo(int count) {
        int kept = Math.min(20, count);
        HighRecipes x = told(count);
        for (int back = 0; back < kept; back++) {
            Check.due("noteAt " + back + " of " + count, x.noteAt(back), 7 + count - 1 - back);
        }
        for (int back : new int[] {-1, kept, kept + 1, 20, 21, count + 20, Integer.MAX_VALUE, Integer.MIN_VALUE}) {
            Check.indexRefused("noteAt " + back + " of " + count, () -> told(count), y -> y.noteAt(back));
        }
    }

    /** "the mean heat of all pans; 0 without any" */
    private static void meanHeat() {
        Check.due("meanHeat of a new object", new HighRecipes().meanHeat(), 0.0);
        Check.due("meanHeat without pans", Check.with("recipe r ()").meanHeat(), 0.0);
        Check.due("meanHeat of one pan", Check.with("pan a holds 1;").meanHeat(), 20.0);
        Check.due("meanHeat of a hot pan", hot(1, 0, 77).meanHeat(), 77.0);
        Check.due("meanHeat of eight pans", eightPans().meanHeat(), 20.0);
        HighRecipes x = Check.with("pan a holds 9; pan b holds 9; pan c holds 9; recipe r (heat c to 30;)");
        x.pourMeal(2, 1);
        x.cook(0);
        Check.due("meanHeat is not cut", x.meanHeat(), 70.0 / 3);
        HighRecipes y = Check.busy();
        Check.due("meanHeat of a busy one", y.meanHeat(), (y.heatOf(0) + y.heatOf(1)) / 2.0);
    }
}
