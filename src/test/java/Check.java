import java.nio.charset.StandardCharsets;

/** What the tests share: they tell each answer that is not the one that is due. */
final class Check {
    interface Call {
        long answer();
    }

    interface Maker {
        HighRecipes make();
    }

    interface CallOn {
        long answer(HighRecipes x);
    }

    private static int wrong = 0;

    static void due(String what, double got, double want) {
        if (got != want) {
            wrong++;
            System.out.println(what + " answered " + got + ", due is " + want);
        }
    }

    static void due(String what, long got, long want) {
        if (got != want) {
            wrong++;
            System.out.println(what + " answered " + got + ", due is " + want);
        }
    }

    static void due(String what, String got, String want) {
        if (!got.equals(want)) {
            wrong++;
            System.out.println(what + " answered " + got + ", due is " + want);
        }
    }

    static void index(String what, Call call) {
        thrown(what, IndexOutOfBoundsException.class, call);
    }

    static void argument(String what, Call call) {
        thrown(what, IllegalArgumentException.class, call);
    }

    static void state(String what, Call call) {
        thrown(what, IllegalStateException.class, call);
    }

    /** Exactly this exception: those of the machine are classes below the ones of the document. */
    private static void thrown(String what, Class<?> want, Call call) {
        String got;
        try {
            got = "" + call.answer();
        } catch (RuntimeException e) {
            if (e.getClass() == want) {
                return;
            }
            got = e.toString();
        }
        wrong++;
        System.out.println(what + " answered " + got + ", due is " + want);
    }

    static void indexRefused(String what, Maker maker, CallOn call) {
        refused(what, IndexOutOfBoundsException.class, maker, call);
    }

    static void argumentRefused(String what, Maker maker, CallOn call) {
        refused(what, IllegalArgumentException.class, maker, call);
    }

    /** The call throws, and behind it the object stands as one on which it was not tried, down to its tape. */
    private static void refused(String what, Class<?> want, Maker maker, CallOn call) {
        HighRecipes x = maker.make();
        HighRecipes twin = maker.make();
        thrown(what, want, () -> call.answer(x));
        due(what + " changes nothing: all", State.of(x), State.of(twin));
        due(what + " changes nothing: errorAt", x.errorAt(), twin.errorAt());
        due(what + " changes nothing: length of the tape", x.feed(END, BLANKS, BLANKS, BLANKS, BLANKS),
            twin.feed(END, BLANKS, BLANKS, BLANKS, BLANKS));
        due(what + " changes nothing: teach", x.teach(), twin.teach());
        due(what + " changes nothing: errorAt of the tape", x.errorAt(), twin.errorAt());
        due(what + " changes nothing: book of the tape", State.of(x), State.of(twin));
    }

    /**
     * An object with nothing as it was at first: two pans, two recipes, 4 warnings, 3 notes, an error at 12, and on the
     * tape BUSY_TAPE bytes, a book that lacks ";)".
     */
    static HighRecipes busy() {
        HighRecipes x = with("pan a holds 60; pan b holds 9; recipe r (pour 30 water into a; pour 6 meal into a; heat a to 98;"
            + "boil a for 20; heat b to 50; note minute; pour 20 water into b; heat b to 60; note (0-7); boil b for 2;)"
            + "recipe s (note 5; boil b for 3;)");
        x.setAltitude(7);
        x.setServings(5);
        x.setSpoon(2);
        x.cook(0);
        x.rest(3);
        x.wash(1);
        x.pourMeal(1, 4);
        x.cook(1);
        due("the busy one: its last teach", teach(x, "pan c holds 0;"), 5);
        type(x, "pan c holds 7; recipe q (note 12");
        return x;
    }

    static final int BUSY_TAPE = 32;
    private static final int BLANKS = 0x20202020;
    // ";) " and a line end
    private static final int END = 0x3b29200a;

    /** Puts just this text onto the tape, which has to be empty. */
    static void type(HighRecipes x, String text) {
        type(x, text.getBytes(StandardCharsets.ISO_8859_1));
    }

    static void type(HighRecipes x, byte[] bytes) {
        for (int i = 0; i < bytes.length; i += 20) {
            x.feed(four(bytes, i), four(bytes, i + 4), four(bytes, i + 8), four(bytes, i + 12), four(bytes, i + 16));
        }
        x.trim(bytes.length);
    }

    private static int four(byte[] bytes, int from) {
        int number = 0;
        for (int i = from; i < from + 4; i++) {
            number = number << 8 | (i < bytes.length ? bytes[i] & 255 : ' ');
        }
        return number;
    }

    static int teach(HighRecipes x, String text) {
        type(x, text);
        return x.teach();
    }

    static HighRecipes with(String text) {
        HighRecipes x = new HighRecipes();
        due("teach of: " + text, teach(x, text), 0);
        return x;
    }

    /** A book that has this error at the first place of this part of it. */
    static void error(String text, int error, int position) {
        HighRecipes x = new HighRecipes();
        due("teach of: " + text, teach(x, text), error);
        due("errorAt of: " + text, x.errorAt(), position);
    }

    static void right(String text) {
        error(text, 0, -1);
    }

    /** A book with this error at the place where ^ stands; ^ itself is no part of it. */
    static void wrong(int error, String marked) {
        int place = marked.indexOf('^');
        error(marked.substring(0, place) + marked.substring(place + 1), error, place);
    }

    static void done() {
        System.out.println(wrong == 0 ? "all answers are as due" : wrong + " answers are not as due");
        if (wrong != 0) {
            System.exit(1);
        }
    }

    private Check() {
    }
}
