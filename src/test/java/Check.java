import java.nio.charset.StandardCharsets;

/** What the tests share: they tell each answer that is not the one that is due. */
final class Check {
    interface Call {
        long answer();
    }

    private static int wrong = 0;

    static void due(String what, double got, double want) {
        if (got != want) {
            wrong++;
            System.out.println(what + " answered " + got + ", due is " + want);
        }
    }

    static void due(String what, long got, long want) {
        if (got != want) {
            wrong++;
            System.out.println(what + " answered " + got + ", due is " + want);
        }
    }

    static void index(String what, Call call) {
        thrown(what, IndexOutOfBoundsException.class, call);
    }

    static void argument(String what, Call call) {
        thrown(what, IllegalArgumentException.class, call);
    }

    static void state(String what, Call call) {
        thrown(what, IllegalStateException.class, call);
    }

    /** Exactly this exception: those of the machine are classes below the ones of the document. */
    private static void thrown(String what, Class<?> want, Call call) {
        String got;
        try {
            got = "" + call.answer();
        } catch (RuntimeException e) {
            if (e.getClass() == want) {
                return;
            }
            got = e.toString();
        }
        wrong++;
        System.out.println(what + " answered " + got + ", due is " + want);
    }

    /** Puts just this text onto the tape, which has to be empty. */
    static void type(HighRecipes x, String text) {
        type(x, text.getBytes(StandardCharsets.ISO_8859_1));
    }

    static void type(HighRecipes x, byte[] bytes) {
        for (int i = 0; i < bytes.length; i += 20) {
            x.feed(four(bytes, i), four(bytes, i + 4), four(bytes, i + 8), four(bytes, i + 12), four(bytes, i + 16));
        }
        x.trim(bytes.length);
    }

    private static int four(byte[] bytes, int from) {
        int number = 0;
        for (int i = from; i < from + 4; i++) {
            number = number << 8 | (i < bytes.length ? bytes[i] & 255 : ' ');
        }
        return number;
    }

    static int teach(HighRecipes x, String text) {
        type(x, text);
        return x.teach();
    }

    static HighRecipes with(String text) {
        HighRecipes x = new HighRecipes();
        due("teach of: " + text, teach(x, text), 0);
        return x;
    }

    /** A book that has this error at the first place of this part of it. */
    static void error(String text, int error, int position) {
        HighRecipes x = new HighRecipes();
        due("teach of: " + text, teach(x, text), error);
        due("errorAt of: " + text, x.errorAt(), position);
    }

    static void right(String text) {
        error(text, 0, -1);
    }

    static void done() {
        System.out.println(wrong == 0 ? "all answers are as due" : wrong + " answers are not as due");
        if (wrong != 0) {
            System.exit(1);
        }
    }

    private Check() {
    }
}
