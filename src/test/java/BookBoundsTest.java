/** '1. The book' and promises 2 to 8, sentence by sentence: each bound from both sides, and what is refused changes nothing. */
public final class BookBoundsTest {
    private static final String PAN = "pan a holds 9;";
    private static final int BLANKS = 0x20202020;
    private static final String[] WORDS = ("pan holds recipe pour water meal into heat to boil for empty rest note cook again "
        + "if and else altitude boiling minute servings spoon of done room").split(" ");
    // Each place of a value in an act, told by @.
    private static final String[] VALUE_PLACES = {
        "pour @ water into a;", "pour @ meal into a;", "heat a to @;", "boil a for @;", "rest @;", "note @;", "again @ ()",
        "if @<1 ()", "if 1<@ ()", "if @>1 ()", "if 1=@ ()", "if 1=1 and @<1 ()", "if 1=1 and 1>@ ()", "if 1=1 and 1=1 and 1=@ ()",
    };
    // Each act, and where a name of a pan stands in it, told by @.
    private static final String[] PAN_PLACES = {
        "pour 1 water into @;", "pour 1 meal into @;", "heat @ to 1;", "boil @ for 1;", "empty @;", "rest water of @;",
        "note (1+meal of @);", "again heat of @ ()", "if 1=done of @ ()", "if room of @=1 ()", "if 1=1 and 1<(1*room of @) ()",
        "pour room of @ water into a;", "again 1 (if 1=1 () else (empty @;))",
    };
    // Each act, none of which begins another.
    private static final String[] ACTS = {
        "pour 1 water into a;", "heat a to 1;", "boil a for 1;", "empty a;", "rest 1;", "note 1;", "cook q;", "again 1 ()", "if 1=1 ()",
    };

    public static void main(String[] args) {
        tape();
        tokens();
        grammar();
        limitsOfError1();
        otherErrors();
        values();
        teaching();
        Check.done();
    }

    private static void tape() {
        tapeIsEmptyAtFirst();
        tapeOfAtMost1600();
        refusedFeedChangesNothing();
        fedBytes();
        trimBounds();
        trimKeepsTheFirstBytes();
        tapeIsEmptyBehindTeach();
        positionsFromZero();
    }

    private static void tokens() {
        blanksBetweenTokens();
        onlyBlanksAndLineEndsBetweenTokens();
        blanksWhereNeeded();
        lettersOfWords();
        lengthOfWords();
        digitsOfNumbers();
        lengthOfNumbers();
        signs();
        longestToken();
    }

    private static void grammar() {
        anyNumberOfTimes();
        onceOrNotAtAll();
        namesAreNoWordsOfTheBook();
    }

    private static void limitsOfError1() {
        endOfTheTape();
        blocksInBlocks();
        valuesInValues();
        fourHundredTokens();
        whatComesAsThe401st();
    }

    private static void otherErrors() {
        otherErrorsOnlyWithoutError1();
        error2();
        error3BehindCook();
        error3OfPans();
        error4OfPans();
        error4OfRecipes();
        error4OfActs();
        error5();
        smallestOfErrorsAtOneToken();
        errorsFromLeftToRight();
    }

    private static void values() {
        sumsWrapAround();
        productsWrapAround();
        quotients();
        comparesOfWrappedValues();
    }

    private static void teaching() {
        teachWithAnErrorChangesNothing();
        teachBeginsAnew();
        errorAtOfTheLatestTeach();
        countsOfTheBook();
    }

    private static HighRecipes typed(String text) {
        HighRecipes x = new HighRecipes();
        Check.type(x, text);
        return x;
    }

    private static String padded(String text, int length) {
        return text + " ".repeat(length - text.length());
    }

    private static int feedBlanks(HighRecipes x) {
        return x.feed(BLANKS, BLANKS, BLANKS, BLANKS, BLANKS);
    }

    // ---- the tape

    /** "at first empty" */
    private static void tapeIsEmptyAtFirst() {
        Check.due("trim(0) of a new object", new HighRecipes().trim(0), 0);
        Check.argumentRefused("trim(1) of a new object", HighRecipes::new, x -> x.trim(1));
        Check.due("teach of a new object", new HighRecipes().teach(), 0);
        Check.due("the first feed", feedBlanks(new HighRecipes()), 20);
    }

    /** "a row of at most 1600 bytes"; feed throws "if there would be more than 1600" */
    private static void tapeOfAtMost1600() {
        for (int length = 1560; length <= 1580; length++) {
            Check.due("feed of a tape of " + length, feedBlanks(typed(padded("", length))), length + 20);
        }
        for (int length = 1581; length <= 1600; length++) {
            HighRecipes x = typed(padded("", length));
            Check.state("feed of a tape of " + length, () -> feedBlanks(x));
        }
    }

    private static void refusedFeedChangesNothing() {
        for (int length : new int[] {1581, 1590, 1599, 1600}) {
            HighRecipes x = Check.busy();
            HighRecipes twin = Check.busy();
            x.trim(0);
            String tape = padded("pan c holds 7; recipe q (note 12;", length - 1) + ")";
            Check.type(x, tape);
            Check.state("feed of a busy tape of " + length, () -> x.feed(0x29292929, 0x29292929, 0, -1, -1));
            Check.due("all behind a refused feed", State.of(x), State.of(twin));
            Check.due("errorAt behind a refused feed", x.errorAt(), twin.errorAt());
            Check.argument("length behind a refused feed", () -> x.trim(length + 1));
            Check.due("length behind a refused feed", x.trim(length), length);
            Check.due("the tape behind a refused feed: teach", x.teach(), 0);
            Check.due("the tape behind a refused feed: all", State.of(x), State.of(Check.with(tape)));
        }
    }

    /** "the four bytes of each number, the highest one first" */
    private static void fedBytes() {
        HighRecipes x = new HighRecipes();
        Check.due("feed", x.feed(0x70616e20, 0x6120686f, 0x6c647320, 0x3230303b, 0x0a0a0a0a), 20);
        Check.due("teach of fed bytes", x.teach(), 0);
        Check.due("holdsOf of fed bytes", x.holdsOf(0), 200);
        for (int at = 0; at < 20; at++) {
            for (int sign : new int[] {0x80, 0xff, 0x7f, 0x00}) {
                int[] row = {BLANKS, BLANKS, BLANKS, BLANKS, BLANKS};
                int shift = 24 - at % 4 * 8;
                row[at / 4] = row[at / 4] & ~(255 << shift) | sign << shift;
                HighRecipes y = new HighRecipes();
                y.feed(row[0], row[1], row[2], row[3], row[4]);
                Check.due("teach of byte " + sign + " at " + at, y.teach(), 1);
                Check.due("errorAt of byte " + sign, y.errorAt(), at);
            }
        }
    }

    /** "if bytes is not 0 to the number of bytes of the tape" */
    private static void trimBounds() {
        int length = Check.BUSY_TAPE;
        for (int bytes : new int[] {-1, length + 1, length + 20, 1600, 1601, Integer.MAX_VALUE, Integer.MIN_VALUE}) {
            Check.argumentRefused("trim " + bytes, Check::busy, x -> x.trim(bytes));
        }
        for (int bytes : new int[] {0, 1, length - 1, length}) {
            HighRecipes x = Check.busy();
            Check.due("trim " + bytes, x.trim(bytes), bytes);
            Check.argument("trim " + (bytes + 1) + " behind trim " + bytes, () -> x.trim(bytes + 1));
            Check.due("feed behind trim " + bytes, feedBlanks(x), bytes + 20);
        }
        HighRecipes full = typed(padded("", 1600));
        Check.argument("trim(1601) of a full tape", () -> full.trim(1601));
        Check.due("trim(1600) of a full tape", full.trim(1600), 1600);
    }

    /** "Shortens the tape to its first bytes." */
    private static void trimKeepsTheFirstBytes() {
        HighRecipes x = typed("pan a holds 123;");
        x.trim(14);
        x.feed(0x393b2020, BLANKS, BLANKS, BLANKS, BLANKS);
        Check.due("teach of a shortened tape", x.teach(), 0);
        Check.due("holdsOf of a shortened tape", x.holdsOf(0), 129);
        HighRecipes y = Check.busy();
        String before = State.of(y);
        y.trim(0);
        Check.due("nothing but the tape is changed by trim", State.of(y), before);
    }

    /** "teach reads it as a book, and it is empty behind it", "(but the tape is empty)" */
    private static void tapeIsEmptyBehindTeach() {
        for (String book : new String[] {PAN, "pan", "recipe a()recipe a()", "recipe a(cook a;)", "pan a holds 0;", padded("", 1600)}) {
            HighRecipes x = typed(book);
            x.teach();
            Check.argument("trim(1) behind teach of " + book, () -> x.trim(1));
            Check.due("trim(0) behind teach of " + book, x.trim(0), 0);
            Check.due("feed behind teach of " + book, feedBlanks(x), 20);
            Check.due("teach of blanks behind " + book, x.teach(), 0);
        }
    }

    /** "Its positions are counted from 0, in bytes." */
    private static void positionsFromZero() {
        Check.error(";", 1, 0);
        Check.error(" ;", 1, 1);
        Check.error("\n;", 1, 1);
        Check.error(padded("", 1598) + ";", 1, 1598);
        Check.error(padded("", 1599) + ";", 1, 1599);
        Check.error(padded("", 1599) + "\u00ff", 1, 1599);
        Check.error("\u00ff;", 1, 0);
        Check.right(padded("", 1586) + PAN);
        Check.right(padded("", 1589) + "recipe r ()");
    }

    // ---- tokens

    /** "Blanks (32) and line ends (10) can stand anywhere between tokens" */
    private static void blanksBetweenTokens() {
        String[] tokens = ("pan,a,holds,9,;,recipe,r,(,if,1,<,2,and,room,of,a,=,(,3,+,minute,),(,pour,4,water,into,a,;,),"
            + "else,(,heat,a,to,5,;,boil,a,for,6,;,),again,7,(,empty,a,;,rest,8,;,note,9,;,),)").split(",");
        for (String blank : new String[] {" ", "\n", "  ", "\n\n", " \n "}) {
            String book = blank + String.join(blank, tokens) + blank;
            Check.due("acts of a book with blanks", Check.with(book).acts(), 8);
        }
        Check.right(" ");
        Check.right("\n");
    }

    private static void onlyBlanksAndLineEndsBetweenTokens() {
        for (int sign = 0; sign < 256; sign++) {
            String book = "recipe r (" + (char) sign + ")";
            if (sign == 32 || sign == 10) {
                Check.right(book);
            } else {
                // the sign ) ends the block, and the other one is too much
                Check.error(book, 1, sign == ')' ? 11 : 10);
            }
        }
    }

    /** "and have to stand between two tokens that would otherwise be read as one" */
    private static void blanksWhereNeeded() {
        Check.right("pan a holds9;recipe r(pour 1water into a;heat a to5;boil a for6;rest7;note8;again9()if1<2and3=3()else())");
        Check.wrong(1, "^pana holds 9;");
        Check.wrong(1, "pan aholds ^9;");
        Check.wrong(1, PAN + "^reciper ()");
        Check.wrong(1, PAN + "recipe r (^emptya;)");
        Check.wrong(1, PAN + "recipe r (note ^minuteof;)");
        Check.wrong(1, PAN + "recipe r (note ^roomof a;)");
        Check.wrong(1, PAN + "recipe r (note room ^ofa;)");
        Check.wrong(1, PAN + "recipe r (pour 1 ^waterinto a;)");
    }

    /** "A word: letters a to z" */
    private static void lettersOfWords() {
        for (int sign = 0; sign < 256; sign++) {
            boolean isLetter = sign >= 97 && sign <= 122;
            boolean isBlank = sign == 32 || sign == 10;
            Check.error("pan " + (char) sign + " holds 9;", isLetter ? 0 : 1, isLetter ? -1 : isBlank ? 6 : 4);
            boolean isRight = isLetter || isBlank;
            Check.error("pan a" + (char) sign + " holds 9;", isRight ? 0 : 1, isRight ? -1 : 5);
        }
    }

    /** "at most 8"; error 1: "a word ... that is too long", at "its first byte" */
    private static void lengthOfWords() {
        Check.right("pan abcdefgh holds 9; recipe zyxwvuts (heat abcdefgh to 1;) recipe r (cook zyxwvuts;)");
        Check.wrong(1, "pan ^abcdefghi holds 9;");
        Check.wrong(1, "recipe ^zyxwvutsr ()");
        Check.wrong(1, "pan abcdefgh holds 9; recipe r (heat ^abcdefghi to 1;)");
        Check.wrong(1, "recipe zyxwvuts () recipe r (cook ^zyxwvutsr;)");
        Check.right("recipe r (note altitude;)");
        Check.wrong(1, "recipe r (note ^altitudes;)");
        Check.right("recipe r (note servings;)");
        Check.wrong(1, "recipe r (note ^servingss;)");
        Check.wrong(1, "^abcdefgh");
        Check.wrong(1, "^abcdefghi");
        Check.wrong(1, "pan ^" + "a".repeat(300));
        Check.wrong(1, "^" + "a".repeat(1600));
        // words that are others if only some of their letters count
        Check.wrong(1, "pan ^aaaaaaaaaaaaapan holds 9;");
        Check.wrong(1, "pan a holds 9; recipe r (empty ^aaaaaaaaaaaaaa;)");
        Check.wrong(1, "pan abcdefgh holds 9; recipe r (empty ^abcdefghabcdefgh;)");
    }

    /** "A number: digits" */
    private static void digitsOfNumbers() {
        for (int sign = 0; sign < 256; sign++) {
            boolean isDigit = sign >= 48 && sign <= 57;
            boolean isBlank = sign == 32 || sign == 10;
            String book = "recipe r (rest " + (char) sign + ";)";
            // the sign ( begins a value, which then lacks its first one
            Check.error(book, isDigit ? 0 : 1, isDigit ? -1 : isBlank || sign == '(' ? 16 : 15);
            if (isDigit) {
                Check.due("the number " + (char) sign, Check.with(book).cook(0), sign - 48);
            }
        }
    }

    /** "at most 3"; error 1: "a number that is too long", at "its first byte" */
    private static void lengthOfNumbers() {
        String[] right = {"0", "9", "00", "99", "000", "007", "099", "999"};
        int[] worth = {0, 9, 0, 99, 0, 7, 99, 999};
        for (int i = 0; i < right.length; i++) {
            noted(right[i], worth[i]);
        }
        for (String wrong : new String[] {"0000", "0001", "0999", "1000", "9999", "12345678901234567890"}) {
            Check.wrong(1, "recipe r (note ^" + wrong + ";)");
            Check.wrong(1, "pan a holds ^" + wrong + ";");
        }
        Check.right("pan a holds 200;");
        Check.right("pan a holds 001;");
    }

    /** "The signs ( ) ; < > = + - * / are tokens by themselves." */
    private static void signs() {
        for (int sign = 0; sign < 256; sign++) {
            boolean isDigit = sign >= 48 && sign <= 57;
            boolean isBlank = sign == 32 || sign == 10;
            boolean compares = "<>=".indexOf(sign) >= 0;
            boolean joins = "+-*/".indexOf(sign) >= 0;
            // with a digit it is one number; behind a blank the number 2 is wrong
            Check.error("recipe r (if 1" + (char) sign + "2 ())", compares ? 0 : 1, compares ? -1 : isDigit ? 17 : isBlank ? 15 : 14);
            Check.error("recipe r (note (1" + (char) sign + "2);)", joins ? 0 : 1, joins ? -1 : isDigit ? 19 : isBlank ? 18 : 17);
        }
        Check.wrong(1, "recipe r (if 1<^=2 ())");
        Check.wrong(1, "recipe r (if 1=^=2 ())");
        Check.wrong(1, "recipe r (note (1-^-2);)");
        Check.wrong(1, "recipe r (note (^-2+1);)");
        Check.wrong(1, "recipe r (note 1;^;)");
    }

    /** "The longest possible token is always read." */
    private static void longestToken() {
        for (String word : WORDS) {
            if (word.length() < 8) {
                Check.right("pan " + word + "x holds 9; recipe r (empty " + word + "x;)");
            }
            Check.right("pan x" + word.substring(1) + " holds 9;");
        }
        Check.wrong(1, "^pans a holds 9;");
        Check.wrong(1, "^recipes r ()");
        Check.wrong(1, "pan a ^holdsx 9;");
        Check.wrong(1, "recipe r (^rests 1;)");
        Check.wrong(1, "recipe r (if 1=1 () ^elsex ())");
        Check.wrong(1, "recipe r (if 1=1 ^andx 1=1 ())");
        Check.wrong(1, "recipe r (note 12 ^3;)");
    }

    // ---- the grammar

    /** "What stands in { } can stand there any number of times, also none" */
    private static void anyNumberOfTimes() {
        Check.right("");
        Check.right("pan a holds 9;");
        Check.right("pan a holds 9;pan b holds 9;pan c holds 9;");
        Check.right("recipe r ()");
        Check.right("recipe r () recipe s () recipe t ()");
        Check.right("recipe r (note 1;)");
        Check.right("recipe r (note 1; note 2; note 3;)");
        for (int ands = 0; ands <= 90; ands += 30) {
            HighRecipes x = Check.with("recipe r (if 1=1" + " and 1=1".repeat(ands) + " (note 7;))");
            x.cook(0);
            Check.due(ands + " times and", x.notes(), 1);
        }
        Check.wrong(1, "recipe r () ^pan a holds 9;");
        Check.wrong(1, "recipe r (if ^and 1=1 ())");
        Check.wrong(1, "recipe r (if 1=1 and (^))");
    }

    /** "what stands in [ ] once or not at all" */
    private static void onceOrNotAtAll() {
        Check.right("recipe r (if 1=1 ())");
        Check.right("recipe r (if 1=1 () else ())");
        Check.wrong(1, "recipe r (if 1=1 () else () ^else ())");
        Check.wrong(1, "recipe r (again 1 () ^else ())");
        Check.wrong(1, "recipe r (^else ())");
        Check.right("recipe r (if 1=1 (if 1=1 () else ()) else ())");
        Check.wrong(1, "recipe r (if 1=1 () note 1; ^else ())");
    }

    /** "A name is a word that is none of these" */
    private static void namesAreNoWordsOfTheBook() {
        for (String word : WORDS) {
            Check.wrong(1, "pan ^" + word + " holds 9;");
            Check.wrong(1, "recipe ^" + word + " ()");
            Check.wrong(1, "recipe r (cook ^" + word + ";)");
            Check.wrong(1, "recipe r (empty ^" + word + ";)");
            Check.wrong(1, "recipe r (note room of ^" + word + ";)");
        }
        Check.right("pan block holds 9; recipe book (note room of block;) recipe act (cook book;) recipe value () recipe name ()");
        Check.right("pan sign holds 9; pan number holds 9; pan content holds 9; recipe compare (empty sign; empty number;)");
    }

    // ---- the limits of error 1

    /** Error 1: "the end of the tape (at its length)" */
    private static void endOfTheTape() {
        String book = "pan a holds 9; recipe r (if 1<2 (heat a to (1+2);) else (note done of a;))";
        for (int length = 1; length < book.length(); length++) {
            boolean inToken = Character.isLetter(book.charAt(length - 1)) && Character.isLetter(book.charAt(length));
            String part = book.substring(0, length);
            if (!inToken && !part.trim().equals("pan a holds 9;")) {
                Check.error(part, 1, length);
                Check.error(part + "\n", 1, length + 1);
                Check.error(padded(part, 1599), 1, 1599);
                Check.error(padded(part, 1600), 1, 1600);
            }
        }
        Check.right(padded(book, 1599));
        Check.right(padded(book, 1600));
        Check.wrong(1, "^p");
        Check.wrong(1, "pan^");
    }

    /** Error 1: "the sign ( of a block that would lie in six others" */
    private static void blocksInBlocks() {
        for (String open : new String[] {"again 1 ", "if 1=1 ", "if 1=1 and 2=2 ", "again (1+1) ", "rest 1; again 1 () if 1=2 () else "}) {
            String five = "recipe r (" + (open + "(").repeat(5);
            Check.right(five + "note 1;" + ")".repeat(6));
            if (!open.contains("else")) {
                Check.wrong(1, five + open + "^()" + ")".repeat(6));
                Check.wrong(1, five + open + "^(");
                // an act that has no sign ( yet is not too deep: another token is wrong at its own place
                Check.wrong(1, five + open + "^;");
                Check.wrong(1, five + open + "^");
            }
        }
        String otherwise = "recipe r (" + "if 1=2 () else (".repeat(5);
        Check.right(otherwise + "note 1;" + ")".repeat(6));
        Check.wrong(1, otherwise + "if 1=2 ^() else ())" + ")".repeat(5));
        // as many as one likes, if they do not lie in each other
        Check.right("recipe r (" + "again 1 (again 1 (again 1 (again 1 (again 1 ()))))".repeat(3) + ") recipe s ("
            + "again 1 (again 1 (again 1 (again 1 (again 1 ()))))".repeat(3) + ")");
    }

    /** Error 1: "or of a value that would lie in four others" */
    private static void valuesInValues() {
        String[] four = {"((((1+2)+3)+4)+5)", "(1-(2-(3-(4-5))))", "(1*((2*(3*4))*5))", "(((1+1)/(1+1))*((1+1)/((1+1)-1)))"};
        String[] five = {"((((^(1+2)+3)+4)+5)+6)", "(1-(2-(3-(4-^(5-6)))))", "(1*((2*(3*^(4*5)))*6))", "(1+(((1+1)-(1+^(1+1)))*2))"};
        String head = "pan a holds 9; recipe r (";
        for (String place : VALUE_PLACES) {
            for (String value : four) {
                Check.right(head + place.replace("@", value) + ")");
            }
            for (String value : five) {
                Check.wrong(1, head + place.replace("@", value) + ")");
            }
            // blocks are no values
            Check.right(head + "again 1 (".repeat(4) + place.replace("@", four[0]) + ")".repeat(5));
        }
        Check.wrong(1, head + "note ((((^(");
        Check.wrong(1, head + "note ((((^;");
        noted(four[0], 15);
        noted(four[1], 3);
        noted(four[2], 120);
        noted(four[3], 2);
        noted("(((8/2)/2)/(8/(8/2)))", 1);
        noted("(999/(99/(9/(3/1))))", 30);
        noted("(9-(8-(7-(6-minute))))", 2);
    }

    /** A book of 10 + 4 * ands + 3 * notes tokens, the last one of which is ). */
    private static String long400(int ands, int notes) {
        return "recipe r (if 1=1" + " and 1=1".repeat(ands) + " () " + "note 1;".repeat(notes) + ")";
    }

    /** Error 1: "the token that would be the 401st (the end of the tape is not counted)" */
    private static void fourHundredTokens() {
        Check.right(long400(95, 3));
        Check.right(long400(96, 2));
        Check.right(long400(96, 2) + " \n ");
        Check.right(padded(long400(96, 2), 1600));
        String tooLong = long400(97, 1);
        Check.error(tooLong, 1, tooLong.length() - 1);
        Check.error(tooLong + " recipe s ()", 1, tooLong.length() - 1);
        // 400 tokens and the end
        String open = tooLong.substring(0, tooLong.length() - 1);
        Check.error(open, 1, open.length());
        Check.error(open + "  ", 1, open.length() + 2);
        // 399 tokens, and a wrong one as the 400th
        Check.wrong(1, long400(95, 3) + "^;");
        Check.wrong(1, long400(95, 3) + "^; ;");
    }

    /** It is told at "its first byte", whatever it is. */
    private static void whatComesAsThe401st() {
        String whole = long400(96, 2);
        for (String token : new String[] {"recipe", "pan", ";", "(", ")", "x", "7", "1234", "abcdefghi", "\u0000", "\u00ff", "A"}) {
            Check.wrong(1, whole + "^" + token);
            Check.wrong(1, whole + " \n^" + token + " ");
        }
        // errors of other numbers count only without it
        Check.wrong(1, whole + "^recipe r ()");
        Check.wrong(3, long400(96, 1).replace("if", "cook ^x; if"));
        String tooLong = long400(95, 3).replace("if", "cook x; if");
        Check.error(tooLong, 1, tooLong.length() - 2);
    }

    // ---- errors 2 to 5

    /** "Only if there is no error 1, the tokens are looked at from left to right" */
    private static void otherErrorsOnlyWithoutError1() {
        String[] marked = {
            "pan a holds 9; pan ^a holds 9; ", "recipe r () recipe s (cook ^t;) ", "pan a holds ^0; ", "pan a holds ^201; ",
            "pan a holds 9; recipe r (empty ^b;) ", "recipe r(" + "rest 1;".repeat(80) + "^note 1;) ",
        };
        int[] errors = {2, 3, 5, 5, 3, 4};
        for (int i = 0; i < marked.length; i++) {
            String book = marked[i].replace("^", "");
            Check.wrong(errors[i], marked[i]);
            Check.wrong(1, book + "^;");
            Check.wrong(1, book + "recipe^");
            Check.wrong(1, book + "recipe last (note ^1000;)");
            Check.wrong(1, book + "recipe last (^");
        }
    }

    /** "Error 2: a pan or recipe gets a name that a pan or recipe ahead of it has." */
    private static void error2() {
        Check.right("pan a holds 9; pan b holds 9; recipe c () recipe d ()");
        Check.wrong(2, "pan a holds 9; pan ^a holds 9;");
        Check.wrong(2, "pan a holds 9; pan b holds 9; pan ^a holds 9;");
        Check.wrong(2, "pan a holds 9; pan b holds 9; pan ^b holds 9;");
        Check.wrong(2, "pan a holds 9; pan b holds 9; recipe ^a ()");
        Check.wrong(2, "pan a holds 9; pan b holds 9; recipe ^b ()");
        Check.wrong(2, "pan a holds 9; recipe r () recipe ^r ()");
        Check.wrong(2, "recipe r () recipe s () recipe ^r ()");
        Check.wrong(2, "recipe r () recipe s () recipe ^s ()");
        // the last ones of as many as there can be
        Check.wrong(2, pans(7) + "pan ^pg holds 9;");
        Check.wrong(2, pans(8) + "recipe ^ph ()");
        Check.wrong(2, recipes(5) + "recipe ^re ()");
        // each letter counts, and how many there are
        Check.right("pan abcdefgh holds 9; pan abcdefgi holds 9; pan bbcdefgh holds 9; pan abcdefg holds 9; recipe bcdefgh ()");
        Check.right("pan a holds 9; pan aa holds 9; pan aaa holds 9; recipe aaaa () recipe aaaaa ()");
        Check.wrong(2, "pan abcdefgh holds 9; recipe ^abcdefgh ()");
    }

    /** "Error 3: a name behind cook is not that of a recipe of which the block has ended ahead of it" */
    private static void error3BehindCook() {
        String head = "pan a holds 9; recipe q () recipe r (";
        Check.right(head + "cook q;)");
        Check.wrong(3, head + "cook ^r;)");
        Check.wrong(3, head + "again 1 (if 1=1 (cook ^r;)))");
        Check.wrong(3, head + "if 1=1 () else (cook ^r;))");
        Check.wrong(3, head + ") recipe t (cook r; cook q; cook ^t;)");
        Check.wrong(3, head + "cook ^t;) recipe t ()");
        Check.wrong(3, head + "cook ^a;)");
        Check.wrong(3, head + "cook ^x;)");
        Check.right(head + ") recipe t (cook r; again 1 (cook q;))");
        Check.right("recipe a()recipe b()recipe c()recipe d()recipe e()recipe f(cook a;cook b;cook c;cook d;cook e;)");
        Check.wrong(3, "recipe a()recipe b()recipe c()recipe d()recipe e()recipe f(cook ^f;)");
    }

    /** "or another name in an act is not that of a pan" */
    private static void error3OfPans() {
        String head = "pan a holds 9; pan b holds 9; recipe q () recipe r (";
        for (String place : PAN_PLACES) {
            Check.right(head + place.replace("@", "a") + ")");
            Check.right(head + place.replace("@", "b") + ")");
            Check.wrong(3, head + place.replace("@", "^c") + ")");
            Check.wrong(3, head + place.replace("@", "^q") + ")");
            Check.wrong(3, head + place.replace("@", "^r") + ")");
            Check.wrong(3, head + place.replace("@", "^s") + ") recipe s ()");
        }
        Check.wrong(3, pans(8) + "recipe r (empty ph; empty ^pi;)");
    }

    private static String pans(int count) {
        StringBuilder text = new StringBuilder();
        for (int i = 0; i < count; i++) {
            text.append("pan p").append((char) ('a' + i)).append(" holds 9;");
        }
        return text.toString();
    }

    private static String recipes(int count) {
        StringBuilder text = new StringBuilder();
        for (int i = 0; i < count; i++) {
            text.append("recipe r").append((char) ('a' + i)).append("()");
        }
        return text.toString();
    }

    /** "Error 4: the name of the 9th pan" */
    private static void error4OfPans() {
        Check.due("8 pans", Check.with(pans(8)).pans(), 8);
        Check.wrong(4, pans(8) + "pan ^pi holds 9;");
        Check.wrong(4, pans(8) + "pan ^pi holds 9;pan pj holds 9;");
        Check.wrong(4, pans(8) + "pan ^pi holds 0;recipe pa (cook x;)");
        Check.right(pans(8) + recipes(6));
    }

    /** "or of the 7th recipe" */
    private static void error4OfRecipes() {
        Check.due("6 recipes", Check.with(recipes(6)).recipes(), 6);
        Check.wrong(4, recipes(6) + "recipe ^rg ()");
        Check.wrong(4, recipes(6) + "recipe ^rg ()recipe rh ()");
        Check.wrong(4, recipes(6) + "recipe ^rg (cook x;)recipe ra ()");
        Check.wrong(4, pans(8) + recipes(6) + "recipe ^rg ()");
    }

    /** "or the first word of the 81st act (all acts of the book are counted, those in blocks of others as well)" */
    private static void error4OfActs() {
        String head = "pan a holds 9; recipe q (" + "rest 1;".repeat(40) + ") recipe r (again 1 (" + "note 1;".repeat(20) + ")";
        String full = head + "if 1=1 (" + "rest 1;".repeat(9) + ") else (" + "rest 1;".repeat(8) + ")";
        // 40, again and 20, if and 17: 79
        for (String act : ACTS) {
            Check.due("80 acts, the last one " + act, Check.with(full + act + ")").acts(), 80);
            Check.wrong(4, full + "note 1; ^" + act + ")");
            Check.wrong(4, full + "again 0 (^" + act + "))");
            Check.wrong(4, full + "note 1;) recipe s (^" + act + ")");
            Check.wrong(4, full + "note 1; ^" + act + "note 1;)");
        }
        Check.wrong(4, full + "note 1; ^again 1 (rest 1;))");
    }

    /** "Error 5: the number behind holds is not 1 to 200." */
    private static void error5() {
        for (String right : new String[] {"1", "01", "001", "2", "199", "200"}) {
            Check.due("holds " + right, Check.with("pan a holds " + right + ";").holdsOf(0), Integer.parseInt(right));
        }
        for (String wrong : new String[] {"0", "00", "000", "201", "202", "256", "257", "999"}) {
            Check.wrong(5, "pan a holds ^" + wrong + ";");
            Check.wrong(5, "pan a holds 9; pan b holds ^" + wrong + "; pan c holds 0;");
        }
        Check.wrong(5, pans(7) + "pan ph holds ^201;");
    }

    /** "of errors at one token the one with the smallest number" */
    private static void smallestOfErrorsAtOneToken() {
        Check.wrong(2, pans(8) + "pan ^pa holds 9;");
        Check.wrong(2, pans(8) + "pan ^ph holds 9;");
        Check.wrong(2, recipes(6) + "recipe ^ra ()");
        Check.wrong(2, recipes(6) + "recipe ^rf ()");
        Check.wrong(2, pans(1) + recipes(6) + "recipe ^pa ()");
    }

    /** "from left to right, and the first error is told, at its token" */
    private static void errorsFromLeftToRight() {
        Check.wrong(5, "pan a holds ^0; pan a holds 0; recipe a (cook a;)");
        Check.wrong(2, "pan a holds 1; pan ^a holds 0; recipe a (cook a;)");
        Check.wrong(2, "pan a holds 1; recipe ^a (cook a;) recipe a ()");
        Check.wrong(3, "pan a holds 1; recipe r (cook ^r; empty r;) recipe r ()");
        Check.wrong(4, pans(8) + "pan ^pi holds 0; pan pa holds 9;");
        Check.wrong(5, pans(7) + "pan ph holds ^0; pan pi holds 9;");
        String acts = "recipe r (" + "rest 1;".repeat(79);
        Check.wrong(3, acts + "cook ^x; rest 1;)");
        Check.wrong(4, acts + "rest 1; ^cook x;)");
        Check.wrong(3, acts + "if 1=water of ^x (rest 1;))");
        Check.wrong(4, acts + "if 1=1 (^rest room of x;))");
        Check.wrong(2, acts + "rest 1;) recipe ^r (rest 1;)");
    }

    // ---- values

    // -2147483648, which is 512 * 512 * 512 * 16, and as far as it can be from 0 on the other side
    private static final String LEAST = "((512*512)*(512*16))";
    private static final String MOST = "(" + LEAST + "-1)";

    private static void noted(String value, int due) {
        HighRecipes x = Check.with("recipe r (note " + value + ";)");
        x.cook(0);
        Check.due("the value " + value, x.noteAt(0), due);
    }

    /** "Values wrap around in 32 bits" */
    private static void sumsWrapAround() {
        noted("(" + MOST + "+0)", Integer.MAX_VALUE);
        noted("(" + MOST + "+1)", Integer.MIN_VALUE);
        noted("(1+" + MOST + ")", Integer.MIN_VALUE);
        noted("(" + MOST + "+" + MOST + ")", -2);
        noted("(" + LEAST + "-0)", Integer.MIN_VALUE);
        noted("(" + LEAST + "-1)", Integer.MAX_VALUE);
        noted("(0-" + LEAST + ")", Integer.MIN_VALUE);
        noted("((0-1)-" + LEAST + ")", Integer.MAX_VALUE);
        noted("(" + LEAST + "+" + LEAST + ")", 0);
        noted("((0-1)+1)", 0);
    }

    private static void productsWrapAround() {
        noted("(((512*512)*512)*15)", 15 << 27);
        noted("(((512*512)*512)*16)", Integer.MIN_VALUE);
        noted("(((512*512)*512)*17)", Integer.MIN_VALUE + (1 << 27));
        noted("(((512*512)*512)*32)", 0);
        noted("((999*999)*(999*999))", (int) (999L * 999 * 999 * 999));
        noted("(" + MOST + "*" + MOST + ")", 1);
        noted("(" + LEAST + "*(0-1))", Integer.MIN_VALUE);
        noted("(" + LEAST + "*" + LEAST + ")", 0);
    }

    /** "/ gives 0 with 0 on the right side, and -2147483648 / -1 gives -2147483648"; "/ is cut towards 0" */
    private static void quotients() {
        noted("(7/0)", 0);
        noted("(0/0)", 0);
        noted("((0-7)/0)", 0);
        noted("(" + LEAST + "/0)", 0);
        noted("(" + MOST + "/(1-1))", 0);
        noted("(7/1)", 7);
        noted("(7/(0-1))", -7);
        noted("(" + LEAST + "/(0-1))", Integer.MIN_VALUE);
        noted("(" + MOST + "/(0-1))", -Integer.MAX_VALUE);
        noted("(" + LEAST + "/1)", Integer.MIN_VALUE);
        noted("(" + LEAST + "/" + LEAST + ")", 1);
        noted("(" + MOST + "/" + LEAST + ")", 0);
        int[][] cut = {{5, 6}, {6, 6}, {7, 6}, {11, 6}, {12, 6}};
        for (int[] row : cut) {
            noted("(" + row[0] + "/" + row[1] + ")", row[0] / row[1]);
            noted("((0-" + row[0] + ")/" + row[1] + ")", -(row[0] / row[1]));
            noted("(" + row[0] + "/(0-" + row[1] + "))", -(row[0] / row[1]));
            noted("((0-" + row[0] + ")/(0-" + row[1] + "))", row[0] / row[1]);
        }
    }

    private static void so(String compare, boolean due) {
        HighRecipes x = Check.with("recipe r (if " + compare + " (note 1;) else (note 0;))");
        x.cook(0);
        Check.due(compare, x.noteAt(0), due ? 1 : 0);
    }

    /** Compares are of the values themselves: what lies between them does not wrap around. */
    private static void comparesOfWrappedValues() {
        so(LEAST + "<" + MOST, true);
        so(MOST + "<" + LEAST, false);
        so(MOST + ">" + LEAST, true);
        so(LEAST + ">" + MOST, false);
        so(LEAST + "=" + MOST, false);
        so(LEAST + "<0", true);
        so(MOST + ">0", true);
        so(LEAST + "=(0-" + LEAST + ")", true);
        so("(0-1)<0", true);
        so("(0-1)>0", false);
    }

    // ---- teach

    /** "If it has an error, all stays (but the tape is empty)." */
    private static void teachWithAnErrorChangesNothing() {
        String[] books = {"pan", "pan c holds 9; pan c holds 9;", "pan c holds 9; recipe q (cook q;)", recipes(7), "pan c holds 201;"};
        int[] places = {3, 19, 30, 73, 12};
        for (int i = 0; i < books.length; i++) {
            HighRecipes x = Check.busy();
            HighRecipes twin = Check.busy();
            x.trim(0);
            Check.due("teach of error " + (i + 1), Check.teach(x, books[i]), i + 1);
            Check.due("all behind error " + (i + 1), State.of(x), State.of(twin));
            Check.due("errorAt of error " + (i + 1), x.errorAt(), places[i]);
            Check.argument("the tape behind error " + (i + 1), () -> x.trim(1));
            Check.due("cook behind error " + (i + 1), x.cook(0), twin.cook(0));
            Check.due("all behind error " + (i + 1) + " and cook", State.of(x), State.of(twin));
        }
        HighRecipes fresh = new HighRecipes();
        Check.due("teach of an error, of a new object", Check.teach(fresh, "pan c holds 9; recipe"), 1);
        Check.due("all behind it", State.of(fresh), State.of(new HighRecipes()));
    }

    /** "Reads the tape as the book, in the place of the one before; all begins anew, the kitchen as well." */
    private static void teachBeginsAnew() {
        String[] books = {"", "pan z holds 5;", pans(8) + recipes(6), "pan a holds 60; recipe r (note minute; rest 5; heat a to 9;)"};
        for (String book : books) {
            HighRecipes x = Check.busy();
            x.trim(0);
            Check.due("teach behind a busy book", Check.teach(x, book), 0);
            Check.due("all begins anew with " + book, State.of(x), State.of(Check.with(book)));
        }
        HighRecipes z = Check.busy();
        z.trim(0);
        z.teach();
        Check.due("all begins anew: altitude", z.altitude(), 0);
        Check.due("all begins anew: servings", z.servings(), 4);
        Check.due("all begins anew: spoon", z.spoon(), 1);
        Check.due("all begins anew: minute", z.minute(), 0);
        Check.due("all begins anew: warnings", z.warnings(), 0);
        Check.due("all begins anew: notes", z.notes(), 0);
        HighRecipes y = Check.with(pans(8) + recipes(6));
        for (int pan = 0; pan < 8; pan++) {
            y.pourWater(pan, 3);
            y.pourMeal(pan, 3);
        }
        Check.teach(y, "pan a holds 5;");
        Check.due("a pan in the place of one before", State.of(y), State.of(Check.with("pan a holds 5;")));
        Check.index("a pan of the book before", () -> y.waterIn(1));
        Check.index("a recipe of the book before", () -> y.cook(0));
        Check.teach(y, pans(8));
        Check.due("pans in the places of those of the book before the last", State.of(y), State.of(Check.with(pans(8))));
    }

    /** "-1 if it had none, or there was none" */
    private static void errorAtOfTheLatestTeach() {
        HighRecipes x = new HighRecipes();
        Check.due("errorAt ahead of the first teach", x.errorAt(), -1);
        feedBlanks(x);
        Check.due("errorAt behind feed", x.errorAt(), -1);
        Check.due("teach of blanks", x.teach(), 0);
        Check.due("errorAt of none", x.errorAt(), -1);
        Check.teach(x, ";");
        Check.due("errorAt 0", x.errorAt(), 0);
        Check.type(x, PAN + ";");
        Check.due("errorAt stays till the next teach", x.errorAt(), 0);
        x.teach();
        Check.due("errorAt of the latest", x.errorAt(), 14);
        x.rest(1);
        Check.due("errorAt stays", x.errorAt(), 14);
        Check.teach(x, padded("", 1600));
        Check.due("errorAt is gone", x.errorAt(), -1);
        Check.teach(x, padded("pan", 1600));
        Check.due("errorAt at the end of a full tape", x.errorAt(), 1600);
    }

    /** Promises 6 to 8, from none to as many as there can be. */
    private static void countsOfTheBook() {
        HighRecipes none = Check.with("");
        Check.due("no pans", none.pans(), 0);
        Check.due("no recipes", none.recipes(), 0);
        Check.due("no acts", none.acts(), 0);
        HighRecipes most = Check.with(pans(8) + recipes(5) + "recipe r (again 1 (if 1=1 (" + "rest 1;".repeat(39) + ") else ("
            + "note 1;".repeat(39) + ")))");
        Check.due("most pans", most.pans(), 8);
        Check.due("most recipes", most.recipes(), 6);
        Check.due("most acts", most.acts(), 80);
    }
}
