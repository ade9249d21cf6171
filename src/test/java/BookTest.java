/** Promises 2 to 8, and '1. The book': the tape, tokens, grammar, errors and values. */
public final class BookTest {
    private static final String PAN = "pan a holds 9;";

    public static void main(String[] args) {
        tape();
        bytesOfFeed();
        teachReplacesAll();
        errorsLeaveAll();
        tokens();
        grammar();
        prefixes();
        nesting();
        tokenLimit();
        names();
        limitsOfTheBook();
        firstErrorIsTold();
        values();
        Check.done();
    }

    private static void tape() {
        HighRecipes x = new HighRecipes();
        Check.due("trim of the empty tape", x.trim(0), 0);
        Check.argument("trim(1) of the empty tape", () -> x.trim(1));
        for (int i = 1; i <= 80; i++) {
            Check.due("feed " + i, x.feed(0x20202020, 0x20202020, 0x20202020, 0x20202020, 0x20202020), 20 * i);
        }
        Check.state("feed over 1600", () -> x.feed(0, 0, 0, 0, 0));
        Check.due("trim behind a full tape", x.trim(1600), 1600);
        Check.argument("trim(1601)", () -> x.trim(1601));
        Check.argument("trim(-1)", () -> x.trim(-1));
        Check.argument("trim(least)", () -> x.trim(Integer.MIN_VALUE));
        Check.due("trim(1581)", x.trim(1581), 1581);
        Check.state("feed from 1581 on", () -> x.feed(0, 0, 0, 0, 0));
        Check.argument("trim(1582), kept back by the failed feed", () -> x.trim(1582));
        Check.due("trim(1580)", x.trim(1580), 1580);
        Check.due("feed from 1580 on", x.feed(0x20202020, 0x20202020, 0x20202020, 0x20202020, 0x20202020), 1600);
        Check.due("a tape of blanks alone", x.teach(), 0);
        Check.argument("the tape is empty behind teach", () -> x.trim(1));
        Check.due("feed behind teach", x.feed(0, 0, 0, 0, 0), 20);
    }

    private static void bytesOfFeed() {
        HighRecipes x = new HighRecipes();
        // "pan pot holds 60;   ", the highest byte of each number first
        x.feed(0x70616e20, 0x706f7420, 0x686f6c64, 0x73203630, 0x3b202020);
        Check.due("teach of fed bytes", x.teach(), 0);
        Check.due("holdsOf", x.holdsOf(0), 60);
        for (int at = 0; at < 20; at++) {
            int[] row = {0x20202020, 0x20202020, 0x20202020, 0x20202020, 0x20202020};
            row[at / 4] ^= 0xa0 << (24 - at % 4 * 8);
            HighRecipes y = new HighRecipes();
            y.feed(row[0], row[1], row[2], row[3], row[4]);
            Check.due("a byte 128 at " + at, y.teach(), 1);
            Check.due("errorAt of a byte 128 at " + at, y.errorAt(), at);
        }
    }

    private static void teachReplacesAll() {
        HighRecipes x = Check.with(PAN + " recipe r (note 5; pour 20 water into a; pour 1 water into a;)");
        long fresh = x.digest();
        x.setAltitude(7);
        x.setServings(8);
        x.setSpoon(2);
        x.cook(0);
        x.rest(9);
        Check.due("teach anew", Check.teach(x, PAN + " recipe r (note 5; pour 20 water into a; pour 1 water into a;)"), 0);
        Check.due("all begins anew: digest", x.digest(), fresh);
        Check.due("all begins anew: altitude", x.altitude(), 0);
        Check.due("all begins anew: servings", x.servings(), 4);
        Check.due("all begins anew: spoon", x.spoon(), 1);
        Check.due("all begins anew: minute", x.minute(), 0);
        Check.due("all begins anew: waterIn", x.waterIn(0), 0);
        Check.due("all begins anew: warnings", x.warnings(), 0);
        Check.index("all begins anew: warningAt", () -> x.warningAt(0));
        Check.index("all begins anew: noteAt", () -> x.noteAt(0));
        Check.due("teach of an empty tape", x.teach(), 0);
        Check.due("an empty book: pans", x.pans(), 0);
        Check.due("an empty book: recipes", x.recipes(), 0);
        Check.due("an empty book: acts", x.acts(), 0);
    }

    private static void errorsLeaveAll() {
        HighRecipes x = Check.with(PAN + " pan b holds 7; recipe r (note 5; again 2 (rest 3; empty b;))");
        Check.due("pans", x.pans(), 2);
        Check.due("recipes", x.recipes(), 1);
        Check.due("acts", x.acts(), 4);
        x.cook(0);
        x.setServings(3);
        x.pourMeal(0, 4);
        long before = x.digest();
        String[] bad = {"pan", "pan c holds 3; pan c holds 4;", "recipe q (cook q;)", "pan c holds 201;"};
        int[] errors = {1, 2, 3, 5};
        for (int i = 0; i < bad.length; i++) {
            Check.due("teach of " + bad[i], Check.teach(x, bad[i]), errors[i]);
            Check.due("all stays behind " + bad[i], x.digest(), before);
            Check.argument("the tape is empty behind " + bad[i], () -> x.trim(1));
        }
        Check.due("errorAt stays", x.errorAt(), 12);
        x.feed(0, 0, 0, 0, 0);
        Check.due("errorAt stays with another tape", x.errorAt(), 12);
        Check.due("the recipe of the book before", x.minutesOfRecipe(0), 8);
        x.trim(0);
        Check.due("teach of nothing", x.teach(), 0);
        Check.due("errorAt is gone", x.errorAt(), -1);
        Check.due("errorAt of a new object", new HighRecipes().errorAt(), -1);
    }

    private static void tokens() {
        Check.right("");
        Check.right(" \n \n");
        Check.right("pan\na\nholds\n9\n;");
        Check.right("pan a holds9;");
        Check.right("pan a holds 009;pan b holds 200;recipe c(note(1+2);)");
        Check.right("pan abcdefgh holds 1;");
        Check.error("pan abcdefghi holds 1;", 1, 4);
        Check.error("pan a holds 1000;", 1, 12);
        Check.error("pan a holds 0009;", 1, 12);
        Check.error("pan a holds 9 9;", 1, 14);
        Check.error("pan a holds 9a;", 1, 13);
        Check.error("pan a b holds 9;", 1, 6);
        Check.error("pana holds 9;", 1, 0);
        Check.error("pan aholds 9;", 1, 11);
        Check.error("pan A holds 9;", 1, 4);
        Check.error("pan a\tholds 9;", 1, 5);
        Check.error("pan a\rholds 9;", 1, 5);
        Check.error("pan \u00e4 holds 9;", 1, 4);
        Check.error("pan a holds 9,", 1, 13);
        Check.error("pan a holds -9;", 1, 12);
        Check.error("pan a0 holds 9;", 1, 5);
        Check.error("\u0000", 1, 0);
        Check.error("pan a holds 9;\u007f", 1, 14);
        Check.error("`", 1, 0);
        Check.error("{", 1, 0);
        Check.error(":", 1, 0);
        for (String word : ("pan holds recipe pour water meal into heat to boil for empty rest note cook again if and "
                + "else altitude boiling minute servings spoon of done room").split(" ")) {
            Check.error("pan " + word + " holds 9;", 1, 4);
            Check.error("recipe " + word + " ()", 1, 7);
            Check.right("pan " + word.substring(1) + "x holds 9;");
        }
    }

    private static void grammar() {
        String[] acts = {
            "pour 1 water into a;", "pour (1+2) meal into a;", "pour water of a water into a;", "heat a to 5;",
            "heat a to heat of a;", "boil a for room of a;", "empty a;", "rest minute;", "note boiling;", "cook q;",
            "again 3 ()", "again (1*2) (note 1;)", "if 1<2 ()", "if 1>2 and meal of a=done of a (note 1;)",
            "if altitude=servings () else ()", "if spoon<(1/2) (if 1=1 () else (note 1;)) else (rest 2;)",
        };
        StringBuilder all = new StringBuilder();
        for (String act : acts) {
            Check.right(PAN + "recipe q () recipe r (" + act + ")");
            all.append(act);
        }
        Check.due("acts of all", Check.with(PAN + "recipe q () recipe r (" + all + ")").acts(), 21);
        String head = PAN + "recipe r (";
        int at = head.length();
        Check.error(head + "pour 1 into a;)", 1, at + 7);
        Check.error(head + "pour 1 water to a;)", 1, at + 13);
        Check.error(head + "pour 1 water into 2;)", 1, at + 18);
        Check.error(head + "pour water water into a;)", 1, at + 11);
        Check.error(head + "pour a water into a;)", 1, at + 5);
        Check.error(head + "heat a for 5;)", 1, at + 7);
        Check.error(head + "boil a to 5;)", 1, at + 7);
        Check.error(head + "heat of a to 5;)", 1, at + 5);
        Check.error(head + "empty a)", 1, at + 7);
        Check.error(head + "rest;)", 1, at + 4);
        Check.error(head + "note 1+2;)", 1, at + 6);
        Check.error(head + "note (1);)", 1, at + 7);
        Check.error(head + "note (1<2);)", 1, at + 7);
        Check.error(head + "note (1+2;)", 1, at + 9);
        Check.error(head + "note -1;)", 1, at + 5);
        Check.error(head + "note done a;)", 1, at + 10);
        Check.error(head + "note minute of a;)", 1, at + 12);
        Check.error(head + "again 3 note 1;)", 1, at + 8);
        Check.error(head + "again 3 ();)", 1, at + 10);
        Check.error(head + "if 1 ()", 1, at + 5);
        Check.error(head + "if 1+2 ()", 1, at + 4);
        Check.error(head + "if 1<2 else ()", 1, at + 7);
        Check.error(head + "if 1<2 and () ()", 1, at + 12);
        Check.error(head + "if 1<2 () else note 1;)", 1, at + 15);
        Check.error(head + "if 1<2 () else () else ()", 1, at + 18);
        Check.error(head + "else ())", 1, at);
        Check.error(head + ";)", 1, at);
        Check.error(head + "recipe s ())", 1, at);
        Check.error("recipe r ();", 1, 11);
        Check.error("recipe r () " + PAN, 1, 12);
        Check.error(";", 1, 0);
        Check.error("a", 1, 0);
        Check.error(PAN + " 5", 1, 15);
    }

    /** Each beginning of a book lacks something at its end, but where a pan or recipe has just ended. */
    private static void prefixes() {
        String book = "pan a holds 9; recipe r (if 1<2 (heat a to (1+2);) else (note done of a;))";
        for (int length = 0; length < book.length(); length++) {
            if (length > 0 && isLetter(book.charAt(length - 1)) && isLetter(book.charAt(length))) {
                continue;
            }
            String part = book.substring(0, length);
            boolean whole = part.trim().isEmpty() || part.trim().equals("pan a holds 9;");
            Check.error(part, whole ? 0 : 1, whole ? -1 : length);
            Check.error(part + "\n ", whole ? 0 : 1, whole ? -1 : length + 2);
        }
    }

    private static boolean isLetter(char c) {
        return c >= 'a' && c <= 'z';
    }

    private static void nesting() {
        Check.right("recipe r (again 1 (again 1 (again 1 (again 1 (again 1 ())))))");
        Check.error("recipe r (again 1 (again 1 (again 1 (again 1 (again 1 (again 1 ()))))))", 1, 63);
        Check.error("recipe r (again 1 (again 1 (again 1 (again 1 (again 1 (again 1 x", 1, 63);
        Check.right("recipe r (if 1<1 () else (if 1<1 () else (if 1<1 () else (if 1<1 () else (again 1 ()))))) recipe s ()");
        Check.error("recipe r (if 1<1 () else (if 1<1 () else (if 1<1 () else (if 1<1 () else (again 1 (if 2<1 () else ())))))", 1, 90);
        Check.right("recipe r (note ((((1+1)+1)+1)+1);)");
        Check.right("recipe r (note ((((1+1)+(1+1))+((1+1)+(1+1)))+(((1+1)+(1+1))+((1+1)+(1+1))));)");
        Check.error("recipe r (note (((((1+1)+1)+1)+1)+1);)", 1, 19);
        Check.error("recipe r (note (1+(1+(1+(1+(1+1)))));)", 1, 27);
        Check.right("recipe r (if 1<1 (if 1<1 (if 1<1 (if 1<1 (if 1<1 ())))))");
        Check.error("recipe r (if 1<1 (if 1<1 (if 1<1 (if 1<1 (if 1<1 (if 1<1 ()))))))", 1, 57);
        // each value begins anew, and blocks are no values
        String deep = "((((1+1)+1)+1)+1)";
        Check.right(PAN + "recipe r (pour " + deep + " water into a; heat a to " + deep + "; boil a for " + deep + "; rest " + deep + ";)");
        Check.right("recipe r (again 1 (again 1 (again 1 (again 1 (again 1 (note ((((1+1)+1)+1)+1);))))))");
        Check.right("recipe r (if ((((1+1)+1)+1)+1)=((((1+1)+1)+1)+1) () again ((((1+1)+1)+1)+1) ())");
    }

    private static String times(String part, int times) {
        return part.repeat(times);
    }

    private static void tokenLimit() {
        // recipe r ( ) are 4 tokens, a compare with its and 4, if 1<1 and () are 6, note 1; and again 1 () are 3 and 4
        String four = times("again 1()", 66);
        String head = "recipe r (if 1=1" + times(" and 1=1", 30) + "()";
        int headTokens = 3 + 6 + 120;
        Check.due("tokens told ahead", headTokens + 66 * 4 + 1, 394);
        Check.right(head + four + "note 1;note 1;)");
        Check.error(head + four + "note 1;note 1;) recipe", 1, (head + four + "note 1;note 1;) ").length());
        Check.error(head + four + "note 1;note 1;rest 1;)", 1, (head + four + "note 1;note 1;rest ").length());
        Check.right(head + four + "note 1;note 1;) \n ");
        Check.error(head + four + "note 1;note 1;)\u0001", 1, (head + four + "note 1;note 1;)").length());
        String open = head + four + "note 1;note 1;note";
        Check.error(open, 1, open.length());
        Check.error(open + "  ", 1, open.length() + 2);
        Check.error(open + " 1", 1, open.length() + 1);
    }

    private static void names() {
        Check.error("pan a holds 9; pan a holds 9;", 2, 19);
        Check.error(PAN + "recipe a ()", 2, 21);
        Check.error("recipe a () recipe a ()", 2, 19);
        Check.right("pan a holds 9; pan b holds 9; recipe c () recipe d ()");
        String head = PAN + "recipe q () recipe r (";
        int at = head.length();
        Check.error(head + "cook r;)", 3, at + 5);
        Check.error(head + "cook s;) recipe s ()", 3, at + 5);
        Check.error(head + "cook a;)", 3, at + 5);
        Check.right(head + "cook q;)");
        Check.error(head + "empty q;)", 3, at + 6);
        Check.error(head + "empty b;)", 3, at + 6);
        Check.error(head + "heat r to 1;)", 3, at + 5);
        Check.error(head + "boil b for 1;)", 3, at + 5);
        Check.error(head + "pour 1 water into b;)", 3, at + 18);
        Check.error(head + "pour 1 meal into q;)", 3, at + 17);
        Check.error(head + "note (1+room of b);)", 3, at + 16);
        Check.error(head + "if 1=1 and 1=heat of q ()", 1, at + 25);
        Check.error(head + "if 1=1 and 1=heat of q ())", 3, at + 21);
        Check.error(head + "again 1 (again 1 (cook r;)))", 3, at + 23);
    }

    private static void limitsOfTheBook() {
        StringBuilder pans = new StringBuilder();
        for (char c = 'a'; c < 'i'; c++) {
            pans.append("pan ").append(c).append(" holds 1;");
        }
        Check.right(pans.toString());
        Check.due("8 pans", Check.with(pans.toString()).pans(), 8);
        Check.error(pans + "pan z holds 1;", 4, pans.length() + 4);
        Check.error(pans + "pan a holds 1;", 2, pans.length() + 4);
        Check.error(pans + "pan z holds 0;", 4, pans.length() + 4);
        Check.error(pans + "pan z holds 1; pan y holds 1; recipe r (heat y to z;)", 1, pans.length() + 50);
        String recipes = "recipe a()recipe b()recipe c()recipe d()recipe e()recipe f()";
        Check.right(recipes);
        Check.due("6 recipes", Check.with(recipes).recipes(), 6);
        Check.error(recipes + "recipe g()", 4, recipes.length() + 7);
        Check.error(recipes + "recipe g()recipe h()recipe g()", 4, recipes.length() + 7);
        Check.error(recipes + "recipe b()", 2, recipes.length() + 7);
        String acts = "recipe a(" + times("rest 1;", 40) + ")recipe b(again 1(" + times("note 1;", 38) + ")";
        Check.right(acts + "note 1;)");
        Check.due("80 acts", Check.with(acts + "note 1;)").acts(), 80);
        Check.error(acts + "note 1; rest 1;)", 4, acts.length() + 8);
        Check.error(acts + "note 1; note 1; note 1;)", 4, acts.length() + 8);
        Check.error(acts + "if 1=1 (cook b;))", 4, acts.length() + 8);
        Check.error(acts + "note done of x; rest 1;)", 3, acts.length() + 13);
        Check.error(acts + "note 1; rest done of x;)", 4, acts.length() + 8);
        Check.error("pan a holds 0;", 5, 12);
        Check.error("pan a holds 201;", 5, 12);
        Check.error("pan a holds 999;", 5, 12);
        Check.error("pan a holds 000;", 5, 12);
        Check.right("pan a holds 1;");
        Check.right("pan a holds 200;");
    }

    private static void firstErrorIsTold() {
        Check.error("pan a holds 0; pan a holds 5; recipe r (cook s;)", 5, 12);
        Check.error("pan a holds 1; pan a holds 0;", 2, 19);
        Check.error("pan a holds 0; pan a holds 5; recipe r (cook s;", 1, 47);
        Check.error("recipe r (cook s; cook", 1, 22);
        Check.error("recipe r (cook s;) recipe r ()", 3, 15);
    }

    private static void note(String value, int want) {
        HighRecipes x = Check.with("pan a holds 50; pan b holds 9; recipe r (note " + value + ";)");
        x.setAltitude(7);
        x.setServings(9);
        x.setSpoon(3);
        x.pourWater(0, 11);
        x.pourMeal(0, 6);
        x.rest(25);
        x.cook(0);
        Check.due("note " + value, x.noteAt(0), want);
    }

    private static void values() {
        note("7", 7);
        note("007", 7);
        note("altitude", 7);
        note("boiling", 98);
        note("minute", 25);
        note("servings", 9);
        note("spoon", 3);
        note("water of a", 11);
        note("meal of a", 6);
        note("heat of a", 20);
        note("done of a", 0);
        note("room of a", 33);
        note("room of b", 9);
        note("(2+3)", 5);
        note("(2-3)", -1);
        note("(2*3)", 6);
        note("(7/2)", 3);
        note("((0-7)/2)", -3);
        note("(7/(0-2))", -3);
        note("(7/0)", 0);
        note("(0/0)", 0);
        note("((7-2)-1)", 4);
        note("((((1+2)*3)-4)/2)", 2);
        note("(20-(18/(2*(1+2))))", 17);
        note("(7-(2-1))", 6);
        note("((999*999)*(999*999))", (int) (999L * 999 * 999 * 999));
        // 2 ** 31 = 512 * 512 * 512 * 16
        String half = "((512*512)*(512*16))";
        note(half, Integer.MIN_VALUE);
        note("(" + half + "-1)", Integer.MAX_VALUE);
        note("(" + half + "/(0-1))", Integer.MIN_VALUE);
        note("(" + half + "+" + half + ")", 0);
        note("(0-" + half + ")", Integer.MIN_VALUE);
    }
}
