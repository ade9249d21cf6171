/** All that an object answers, as one text: two objects of which it is the same stand alike. */
final class State {
    private final StringBuilder text = new StringBuilder();
    private final HighRecipes x;

    /** Without errorAt, which a teach that changes nothing else changes. */
    static String of(HighRecipes x) {
        State state = new State(x);
        state.addKitchen();
        state.addPans();
        state.addHistories();
        state.addWhatWouldBe();
        state.add("digest", x.digest());
        return state.text.toString();
    }

    private State(HighRecipes x) {
        this.x = x;
    }

    private void add(String what, long answer) {
        text.append(what).append(' ').append(answer).append("; ");
    }

    private void addKitchen() {
        add("pans", x.pans());
        add("recipes", x.recipes());
        add("acts", x.acts());
        add("altitude", x.altitude());
        add("boilingPoint", x.boilingPoint());
        add("servings", x.servings());
        add("spoon", x.spoon());
        add("minute", x.minute());
        add("amountFor", x.amountFor(13));
    }

    private void addPans() {
        for (int pan = 0; pan < x.pans(); pan++) {
            add("holdsOf", x.holdsOf(pan));
            add("waterIn", x.waterIn(pan));
            add("mealIn", x.mealIn(pan));
            add("heatOf", x.heatOf(pan));
            add("doneIn", x.doneIn(pan));
            add("roomIn", x.roomIn(pan));
        }
        text.append("meanHeat ").append(x.meanHeat()).append("; ");
    }

    private void addHistories() {
        add("warnings", x.warnings());
        for (int kind = 1; kind <= 5; kind++) {
            add("warningsOf", x.warningsOf(kind));
        }
        for (int back = 0; back < 20 && back < x.warnings(); back++) {
            add("warningAt", x.warningAt(back));
        }
        add("notes", x.notes());
        for (int back = 0; back < 20 && back < x.notes(); back++) {
            add("noteAt", x.noteAt(back));
        }
    }

    private void addWhatWouldBe() {
        for (int recipe = 0; recipe < x.recipes(); recipe++) {
            add("minutesOfRecipe", x.minutesOfRecipe(recipe));
            add("warningsOfRecipe", x.warningsOfRecipe(recipe));
            add("firstWarning", x.firstWarning(recipe));
            for (int pan = 0; pan < x.pans(); pan++) {
                add("doneBehind", x.doneBehind(recipe, pan));
            }
            add("highestSafe", x.highestSafe(recipe));
            add("mostServings", x.mostServings(recipe));
        }
    }
}
