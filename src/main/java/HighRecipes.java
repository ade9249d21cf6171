/** A translator of recipes across altitudes. */
public final class HighRecipes {

    private static final int HIGHEST = 60;
    private static final int MOST_SERVINGS = 12;
    private static final int MOST_SPOON = 10;
    private static final int MOST_POURED = 200;
    private static final int MOST_TOLD = 999;
    private static final int LONGEST_REST = 600;
    private static final int BOOK_BYTES = 1600;
    private static final int FED_BYTES = 20;
    private static final int ROOM_TEMPERATURE = 20;
    private static final int WARNING_KINDS = 5;

    private final Tape tape;
    private final Parser parser;
    private final Kitchen kitchen;
    private final Cooking cooking;
    // What would be is tried out here, so that the kitchen itself stays as it is.
    private final Kitchen trial;
    private final Cooking trying;
    private int errorPosition;

    public HighRecipes() {
        tape = new Tape();
        parser = new Parser();
        kitchen = new Kitchen();
        cooking = new Cooking(kitchen);
        trial = new Kitchen();
        trying = new Cooking(trial);
        errorPosition = -1;
    }

    // ---- the book

    public int feed(int a, int b, int c, int d, int e) throws IllegalStateException {
        if (tape.length + FED_BYTES > BOOK_BYTES) {
            throw new IllegalStateException("the tape would be too long");
        }
        tape.append(a);
        tape.append(b);
        tape.append(c);
        tape.append(d);
        tape.append(e);
        return tape.length;
    }

    public int trim(int bytes) throws IllegalArgumentException {
        requireWithin(bytes, 0, tape.length);
        tape.length = bytes;
        return bytes;
    }

    public int teach() {
        int error = parser.readBook(tape);
        errorPosition = parser.errorPosition();
        tape.length = 0;
        if (error == 0) {
            kitchen.begin(parser.book);
        }
        return error;
    }

    public int errorAt() {
        return errorPosition;
    }

    public int pans() {
        return kitchen.book.panCount;
    }

    public int recipes() {
        return kitchen.book.recipeCount;
    }

    public int acts() {
        return kitchen.book.actCount;
    }

    // ---- the kitchen

    public int altitude() {
        return kitchen.altitude;
    }

    public int boilingPoint() {
        return kitchen.boilingHeat();
    }

    public int servings() {
        return kitchen.servings;
    }

    public int spoon() {
        return kitchen.spoon;
    }

    public int minute() {
        return kitchen.minute;
    }

    // ---- pans

    public int holdsOf(int pan) throws IndexOutOfBoundsException {
        return requirePan(pan).holds;
    }

    public int waterIn(int pan) throws IndexOutOfBoundsException {
        return requirePan(pan).water;
    }

    public int mealIn(int pan) throws IndexOutOfBoundsException {
        return requirePan(pan).meal;
    }

    public int heatOf(int pan) throws IndexOutOfBoundsException {
        return requirePan(pan).heat;
    }

    public int doneIn(int pan) throws IndexOutOfBoundsException {
        return requirePan(pan).done;
    }

    public int roomIn(int pan) throws IndexOutOfBoundsException {
        return requirePan(pan).space();
    }

    // ---- translations

    public int boilingAt(int altitude) throws IllegalArgumentException {
        requireWithin(altitude, 0, HIGHEST);
        return Kitchen.boilingHeatAt(altitude);
    }

    public int minutesAt(int minutes, int altitude) throws IllegalArgumentException {
        requireWithin(minutes, 0, MOST_TOLD);
        requireWithin(altitude, 0, HIGHEST);
        return Kitchen.boilingMinutes(minutes, altitude);
    }

    public int amountFor(int spoons) throws IllegalArgumentException {
        requireWithin(spoons, 0, MOST_TOLD);
        return kitchen.translated(spoons);
    }

    // ---- warnings and notes

    public int warnings() {
        return kitchen.warnings.total;
    }

    public int warningsOf(int kind) throws IllegalArgumentException {
        requireWithin(kind, 1, WARNING_KINDS);
        return kitchen.warningsOfKind(kind);
    }

    public int warningAt(int back) throws IndexOutOfBoundsException {
        requireIndex(back, kitchen.warnings.kept());
        return kitchen.warnings.recall(back);
    }

    public int notes() {
        return kitchen.notes.total;
    }

    public int noteAt(int back) throws IndexOutOfBoundsException {
        requireIndex(back, kitchen.notes.kept());
        return kitchen.notes.recall(back);
    }

    // ---- by hand

    public int setAltitude(int altitude) throws IllegalArgumentException {
        requireWithin(altitude, 0, HIGHEST);
        int before = kitchen.altitude;
        kitchen.moveTo(altitude);
        return before;
    }

    public int setServings(int servings) throws IllegalArgumentException {
        requireWithin(servings, 1, MOST_SERVINGS);
        int before = kitchen.servings;
        kitchen.servings = servings;
        return before;
    }

    public int setSpoon(int spoon) throws IllegalArgumentException {
        requireWithin(spoon, 1, MOST_SPOON);
        int before = kitchen.spoon;
        kitchen.spoon = spoon;
        return before;
    }

    public int pourWater(int pan, int spoons) throws IndexOutOfBoundsException, IllegalArgumentException {
        Pan into = requirePan(pan);
        requireWithin(spoons, 1, MOST_POURED);
        return into.fill(spoons, false);
    }

    public int pourMeal(int pan, int spoons) throws IndexOutOfBoundsException, IllegalArgumentException {
        Pan into = requirePan(pan);
        requireWithin(spoons, 1, MOST_POURED);
        return into.fill(spoons, true);
    }

    public int wash(int pan) throws IndexOutOfBoundsException {
        Pan washed = requirePan(pan);
        int before = washed.inside();
        washed.clear();
        return before;
    }

    public int rest(int minutes) throws IllegalArgumentException {
        requireWithin(minutes, 1, LONGEST_REST);
        kitchen.pass(minutes, null);
        return kitchen.hotPans();
    }

    public int cook(int recipe) throws IndexOutOfBoundsException {
        requireRecipe(recipe);
        return cooking.run(recipe);
    }

    // ---- what would be

    public int minutesOfRecipe(int recipe) throws IndexOutOfBoundsException {
        requireRecipe(recipe);
        trial.become(kitchen);
        return trying.run(recipe);
    }

    public int warningsOfRecipe(int recipe) throws IndexOutOfBoundsException {
        requireRecipe(recipe);
        trial.become(kitchen);
        trying.run(recipe);
        return trial.warnings.total;
    }

    public int firstWarning(int recipe) throws IndexOutOfBoundsException {
        requireRecipe(recipe);
        trial.become(kitchen);
        trying.run(recipe);
        return trying.firstWarningAct;
    }

    public int doneBehind(int recipe, int pan) throws IndexOutOfBoundsException {
        requireRecipe(recipe);
        requireIndex(pan, kitchen.book.panCount);
        trial.become(kitchen);
        trying.run(recipe);
        Pan behind = trial.panAt(pan);
        return behind == null ? 0 : behind.done;
    }

    public int highestSafe(int recipe) throws IndexOutOfBoundsException {
        requireRecipe(recipe);
        for (int altitude = HIGHEST; altitude >= 0; altitude--) {
            trial.become(kitchen);
            trial.moveTo(altitude);
            trying.run(recipe);
            if (trial.warnings.total == 0) {
                return altitude;
            }
        }
        return -1;
    }

    public int mostServings(int recipe) throws IndexOutOfBoundsException {
        requireRecipe(recipe);
        for (int servings = MOST_SERVINGS; servings >= 1; servings--) {
            trial.become(kitchen);
            trial.servings = servings;
            trying.run(recipe);
            if (trial.warningsOfKind(Cooking.OVERFLOWS) == 0) {
                return servings;
            }
        }
        return -1;
    }

    public double meanHeat() {
        int count = kitchen.book.panCount;
        if (count == 0) {
            return 0;
        }
        int sum = 0;
        for (int i = 0; i < count; i++) {
            Pan pan = kitchen.panAt(i);
            sum += pan == null ? 0 : pan.heat;
        }
        return (double) sum / count;
    }

    public long digest() {
        long sum = 1913;
        sum = mixed(sum, kitchen.book.panCount);
        sum = mixed(sum, kitchen.book.recipeCount);
        sum = mixed(sum, kitchen.book.actCount);
        sum = mixed(sum, kitchen.altitude);
        sum = mixed(sum, kitchen.servings);
        sum = mixed(sum, kitchen.spoon);
        sum = mixed(sum, kitchen.minute);
        sum = mixed(sum, kitchen.warnings.total);
        sum = mixed(sum, kitchen.notes.total);
        for (int kind = 1; kind <= WARNING_KINDS; kind++) {
            sum = mixed(sum, kitchen.warningsOfKind(kind));
        }
        for (int i = 0; i < kitchen.book.panCount; i++) {
            sum = mixedWithPan(sum, kitchen.panAt(i));
        }
        return mixedWithHistory(mixedWithHistory(sum, kitchen.warnings), kitchen.notes);
    }

    private static long mixed(long sum, int number) {
        return sum * 31 + number;
    }

    private static long mixedWithPan(long before, Pan pan) {
        if (pan == null) {
            return before;
        }
        long sum = mixed(before, pan.holds);
        sum = mixed(sum, pan.water);
        sum = mixed(sum, pan.meal);
        sum = mixed(sum, pan.heat);
        return mixed(sum, pan.done);
    }

    private static long mixedWithHistory(long before, History history) {
        long sum = before;
        int kept = history.kept();
        for (int back = 0; back < kept; back++) {
            sum = mixed(sum, history.recall(back));
        }
        return sum;
    }

    private static void requireWithin(int number, int least, int most) throws IllegalArgumentException {
        if (number < least || number > most) {
            throw new IllegalArgumentException("a number is too small or too great");
        }
    }

    private static void requireIndex(int index, int count) throws IndexOutOfBoundsException {
        if (index < 0 || index >= count) {
            throw new IndexOutOfBoundsException("there is nothing of this number");
        }
    }

    private void requireRecipe(int recipe) throws IndexOutOfBoundsException {
        requireIndex(recipe, kitchen.book.recipeCount);
    }

    private Pan requirePan(int pan) throws IndexOutOfBoundsException {
        Pan found = kitchen.panAt(pan);
        if (found == null) {
            throw new IndexOutOfBoundsException("there is no such pan");
        }
        return found;
    }

    private static int quotient(int number, int divisor) {
        return divisor == 0 ? 0 : number / divisor;
    }

    private static int clamped(int number, int least, int most) {
        return Math.max(least, Math.min(most, number));
    }

    /** The bytes of a book that is not read yet. */
    private static final class Tape {
        private final byte[] bytes = new byte[BOOK_BYTES];
        private int length;

        void append(int number) {
            for (int shift = 24; shift >= 0; shift -= 8) {
                if (length >= 0 && length < bytes.length) {
                    bytes[length] = (byte) (number >>> shift);
                    length++;
                }
            }
        }

        /** The byte there, 0 to 255, or -1 behind the end. */
        int byteAt(int position) {
            if (position < 0 || position >= length || position >= bytes.length) {
                return -1;
            }
            return bytes[position] & 255;
        }
    }

    /** What a token can be. */
    private enum Kind {
        PAN("pan"), HOLDS("holds"), RECIPE("recipe"), POUR("pour"), WATER("water"), MEAL("meal"), INTO("into"),
        HEAT("heat"), TO("to"), BOIL("boil"), FOR("for"), EMPTY("empty"), REST("rest"), NOTE("note"), COOK("cook"),
        AGAIN("again"), IF("if"), AND("and"), ELSE("else"), ALTITUDE("altitude"), BOILING("boiling"),
        MINUTE("minute"), SERVINGS("servings"), SPOON("spoon"), OF("of"), DONE("done"), ROOM("room"),
        OPEN('('), CLOSE(')'), SEMICOLON(';'), LESS('<'), GREATER('>'), EQUAL('='),
        PLUS('+'), MINUS('-'), TIMES('*'), OVER('/'),
        NAME, NUMBER, END, BAD;

        private static final Kind[] ALL = values();

        private final long word;
        private final int sign;

        Kind(String text) {
            word = packed(text);
            sign = -1;
        }

        Kind(char sign) {
            this.word = -1;
            this.sign = sign;
        }

        Kind() {
            word = -1;
            sign = -1;
        }

        private static long packed(String text) {
            long word = 0;
            for (int i = 0; i < text.length(); i++) {
                word = withLetter(word, text.charAt(i));
            }
            return word;
        }

        /** Words of eight letters fit into a number, so that no text has to be made of them. */
        static long withLetter(long word, int letter) {
            return word * 32 + (letter - 'a' + 1);
        }

        static Kind ofWord(long word) {
            for (Kind kind : ALL) {
                if (kind.word == word) {
                    return kind;
                }
            }
            return NAME;
        }

        static Kind ofSign(int sign) {
            for (Kind kind : ALL) {
                if (kind.sign == sign) {
                    return kind;
                }
            }
            return BAD;
        }

        boolean beginsAct() {
            return this == POUR || this == HEAT || this == BOIL || this == EMPTY || this == REST || this == NOTE
                || this == COOK || this == AGAIN || this == IF;
        }

        boolean isMeasure() {
            return this == ALTITUDE || this == BOILING || this == MINUTE || this == SERVINGS || this == SPOON;
        }

        boolean isContent() {
            return this == WATER || this == MEAL || this == HEAT || this == DONE || this == ROOM;
        }

        boolean isCompareSign() {
            return this == LESS || this == GREATER || this == EQUAL;
        }

        boolean isValueSign() {
            return this == PLUS || this == MINUS || this == TIMES || this == OVER;
        }
    }

    /** The tokens of a tape, and the one that is looked at. */
    private static final class Tokens {
        private static final int MOST = 400;
        private static final int LONGEST_WORD = 8;
        private static final int LONGEST_NUMBER = 3;

        // One more than there may be: the last one is the end, or a bad one.
        private final Kind[] kinds = new Kind[MOST + 1];
        private final int[] positions = new int[MOST + 1];
        private final long[] worths = new long[MOST + 1];
        private int count;
        private int here;
        // BAD from the first token on that is not as it should be: no other is taken then.
        private Kind kind = Kind.END;

        void split(Tape tape) {
            count = 0;
            Kind latest = Kind.END;
            int at = behindBlanks(tape, 0);
            for (int i = 0; i <= MOST && at < tape.length && latest != Kind.BAD; i++) {
                int end = endOfToken(tape, at);
                long worth = worthOf(tape, at, end);
                latest = i < MOST ? kindOf(tape.byteAt(at), end - at, worth) : Kind.BAD;
                add(latest, at, worth);
                at = behindBlanks(tape, end);
            }
            if (latest != Kind.BAD) {
                add(Kind.END, tape.length, 0);
            }
            here = -1;
            step(true);
        }

        private void add(Kind kind, int position, long worth) {
            if (count >= 0 && count < kinds.length && count < positions.length && count < worths.length) {
                kinds[count] = kind;
                positions[count] = position;
                worths[count] = worth;
                count++;
            }
        }

        /** Goes on behind a token that is right; at one that is not it stays for good. */
        void step(boolean right) {
            Kind found = null;
            if (right) {
                here++;
                found = here >= 0 && here < count && here < kinds.length ? kinds[here] : null;
            }
            kind = found == null ? Kind.BAD : found;
        }

        void take(Kind wanted) {
            step(kind == wanted);
        }

        /** The number, or the letters of the word, that is looked at. */
        long worth() {
            return here >= 0 && here < worths.length ? worths[here] : 0;
        }

        int positionOf(int token) {
            return token >= 0 && token < positions.length ? positions[token] : 0;
        }

        private static int behindBlanks(Tape tape, int from) {
            int at = from;
            while (at < tape.length && (tape.byteAt(at) == ' ' || tape.byteAt(at) == '\n')) {
                at++;
            }
            return at;
        }

        private static int endOfToken(Tape tape, int from) {
            int first = tape.byteAt(from);
            int end = from + 1;
            while (end < tape.length && goesOn(first, tape.byteAt(end))) {
                end++;
            }
            return end;
        }

        private static boolean goesOn(int first, int next) {
            return isLetter(first) && isLetter(next) || isDigit(first) && isDigit(next);
        }

        private static long worthOf(Tape tape, int from, int end) {
            long worth = 0;
            for (int at = from; at < end; at++) {
                int sign = tape.byteAt(at);
                worth = isDigit(sign) ? worth * 10 + (sign - '0') : Kind.withLetter(worth, sign);
            }
            return worth;
        }

        private static Kind kindOf(int first, int length, long worth) {
            if (isLetter(first)) {
                return length <= LONGEST_WORD ? Kind.ofWord(worth) : Kind.BAD;
            }
            if (isDigit(first)) {
                return length <= LONGEST_NUMBER ? Kind.NUMBER : Kind.BAD;
            }
            return Kind.ofSign(first);
        }

        private static boolean isLetter(int sign) {
            return sign >= 'a' && sign <= 'z';
        }

        private static boolean isDigit(int sign) {
            return sign >= '0' && sign <= '9';
        }
    }

    /** A value, or a compare of two values. */
    private static final class Value {
        // Of a compare, and of a value in ( and ), it is the sign between its two sides.
        private Kind kind;
        // The number, or the pan of which a content is told.
        private int number;
        private Value left;
        private Value right;
        // Of a compare, the one ahead of it in the same act.
        private Value ahead;

        Value(Kind kind) {
            this.kind = kind;
        }
    }

    private static final class Act {
        private final Kind kind;
        private int pan = -1;
        private int recipe = -1;
        private boolean poursMeal;
        private Value value;
        private Value lastCompare;
        // The first act of its block, and of the one behind else; null, if that is without acts.
        private Act block;
        private Act otherwise;
        private Act next;

        Act(Kind kind) {
            this.kind = kind;
        }
    }

    private static final class Book {
        private static final int MOST_PANS = 8;
        private static final int MOST_RECIPES = 6;
        private static final int MOST_ACTS = 80;

        private final long[] panNames = new long[MOST_PANS];
        private final int[] holds = new int[MOST_PANS];
        private final long[] recipeNames = new long[MOST_RECIPES];
        private final Act[] blocks = new Act[MOST_RECIPES];
        private int panCount;
        private int recipeCount;
        private int actCount;

        void addPan(long name, int spoons) {
            if (panCount >= 0 && panCount < panNames.length && panCount < holds.length) {
                panNames[panCount] = name;
                holds[panCount] = spoons;
                panCount++;
            }
        }

        void addRecipe(long name, Act block) {
            if (recipeCount >= 0 && recipeCount < recipeNames.length && recipeCount < blocks.length) {
                recipeNames[recipeCount] = name;
                blocks[recipeCount] = block;
                recipeCount++;
            }
        }

        /** Which of the names it is; -1, if it is none. */
        static int indexOf(long name, long[] names, int count) {
            for (int i = 0; i < count && i < names.length; i++) {
                if (names[i] == name) {
                    return i;
                }
            }
            return -1;
        }

        int spoonsOf(int pan) {
            return pan >= 0 && pan < holds.length ? holds[pan] : 0;
        }

        Act blockOf(int recipe) {
            return recipe >= 0 && recipe < blocks.length ? blocks[recipe] : null;
        }
    }

    /** Makes a book of a tape. */
    private static final class Parser {
        private static final int BLOCKS_AROUND = 5;
        private static final int VALUES_AROUND = 3;
        private static final int MOST_HELD = 200;

        private final Tokens tokens = new Tokens();
        private Book book = new Book();
        private int error;
        private int errorToken;

        /** Returns the error, or 0. */
        int readBook(Tape tape) {
            book = new Book();
            error = 0;
            tokens.split(tape);
            for (int i = 0; i < Tokens.MOST && tokens.kind == Kind.PAN; i++) {
                readPan();
            }
            for (int i = 0; i < Tokens.MOST && tokens.kind == Kind.RECIPE; i++) {
                tokens.take(Kind.RECIPE);
                long name = readNewName(book.recipeCount >= Book.MOST_RECIPES);
                // Only a recipe of which the block has ended can be cooked in another.
                book.addRecipe(name, readBlock(0));
            }
            if (tokens.kind != Kind.END) {
                error = 1;
                errorToken = tokens.here;
            }
            return error;
        }

        /** Where the error of the latest book is; -1, if it has none. */
        int errorPosition() {
            return error == 0 ? -1 : tokens.positionOf(errorToken);
        }

        /** Only the first of these errors is told. */
        private void complain(int number) {
            if (error == 0) {
                error = number;
                errorToken = tokens.here;
            }
        }

        private void readPan() {
            tokens.take(Kind.PAN);
            long name = readNewName(book.panCount >= Book.MOST_PANS);
            tokens.take(Kind.HOLDS);
            int spoons = (int) tokens.worth();
            if (tokens.kind == Kind.NUMBER && (spoons < 1 || spoons > MOST_HELD)) {
                complain(5);
            }
            tokens.take(Kind.NUMBER);
            tokens.take(Kind.SEMICOLON);
            book.addPan(name, spoons);
        }

        private long readNewName(boolean tooMany) {
            long name = tokens.worth();
            if (tokens.kind == Kind.NAME) {
                if (isTaken(name)) {
                    complain(2);
                } else if (tooMany) {
                    complain(4);
                }
            }
            tokens.take(Kind.NAME);
            return name;
        }

        private boolean isTaken(long name) {
            return Book.indexOf(name, book.panNames, book.panCount) >= 0
                || Book.indexOf(name, book.recipeNames, book.recipeCount) >= 0;
        }

        private int readKnownName(boolean ofRecipe) {
            int found = ofRecipe
                ? Book.indexOf(tokens.worth(), book.recipeNames, book.recipeCount)
                : Book.indexOf(tokens.worth(), book.panNames, book.panCount);
            if (tokens.kind == Kind.NAME && found < 0) {
                complain(3);
            }
            tokens.step(tokens.kind == Kind.NAME);
            return found;
        }

        private Act readBlock(int around) {
            tokens.step(tokens.kind == Kind.OPEN && around <= BLOCKS_AROUND);
            Act first = null;
            Act last = null;
            for (int i = 0; i < Tokens.MOST && tokens.kind.beginsAct(); i++) {
                Act act = readAct(around);
                if (last == null) {
                    first = act;
                } else {
                    last.next = act;
                }
                last = act;
            }
            tokens.take(Kind.CLOSE);
            return first;
        }

        private void countAct() {
            book.actCount++;
            if (book.actCount > Book.MOST_ACTS) {
                complain(4);
            }
        }

        private Act readAct(int around) {
            Act act = new Act(tokens.kind);
            countAct();
            tokens.step(true);
            switch (act.kind) {
                case AGAIN:
                    act.value = readValue(0);
                    act.block = readBlock(around + 1);
                    return act;
                case IF:
                    act.lastCompare = readCompares();
                    act.block = readBlock(around + 1);
                    if (tokens.kind == Kind.ELSE) {
                        tokens.take(Kind.ELSE);
                        act.otherwise = readBlock(around + 1);
                    }
                    return act;
                case POUR:
                    act.value = readValue(0);
                    act.poursMeal = tokens.kind == Kind.MEAL;
                    tokens.take(act.poursMeal ? Kind.MEAL : Kind.WATER);
                    tokens.take(Kind.INTO);
                    act.pan = readKnownName(false);
                    break;
                case HEAT:
                case BOIL:
                    act.pan = readKnownName(false);
                    tokens.take(act.kind == Kind.HEAT ? Kind.TO : Kind.FOR);
                    act.value = readValue(0);
                    break;
                case EMPTY:
                    act.pan = readKnownName(false);
                    break;
                case COOK:
                    act.recipe = readKnownName(true);
                    break;
                default:
                    act.value = readValue(0);
                    break;
            }
            tokens.take(Kind.SEMICOLON);
            return act;
        }

        /** Returns the last one, from which the others are reached: in what order they are looked at is all one. */
        private Value readCompares() {
            Value last = null;
            boolean more = true;
            for (int i = 0; i < Tokens.MOST && more; i++) {
                Value left = readValue(0);
                Value compare = new Value(tokens.kind);
                tokens.step(tokens.kind.isCompareSign());
                compare.left = left;
                compare.right = readValue(0);
                compare.ahead = last;
                last = compare;
                more = tokens.kind == Kind.AND;
                if (more) {
                    tokens.take(Kind.AND);
                }
            }
            return last;
        }

        private Value readValue(int around) {
            Value value = new Value(tokens.kind);
            if (value.kind == Kind.NUMBER) {
                value.number = (int) tokens.worth();
                tokens.take(Kind.NUMBER);
            } else if (value.kind.isContent()) {
                tokens.step(true);
                tokens.take(Kind.OF);
                value.number = readKnownName(false);
            } else if (value.kind == Kind.OPEN && around <= VALUES_AROUND) {
                tokens.take(Kind.OPEN);
                value.left = readValue(around + 1);
                value.kind = tokens.kind;
                tokens.step(tokens.kind.isValueSign());
                value.right = readValue(around + 1);
                tokens.take(Kind.CLOSE);
            } else {
                tokens.step(value.kind.isMeasure());
            }
            return value;
        }
    }

    private static final class Pan {
        private int holds;
        private int water;
        private int meal;
        private int heat = ROOM_TEMPERATURE;
        private int done;

        void clear() {
            water = 0;
            meal = 0;
            heat = ROOM_TEMPERATURE;
            done = 0;
        }

        void become(Pan other) {
            holds = other.holds;
            water = other.water;
            meal = other.meal;
            heat = other.heat;
            done = other.done;
        }

        int inside() {
            return water + meal;
        }

        int space() {
            return holds - water - meal;
        }

        /** Returns how many spoons get in. */
        int fill(int spoons, boolean withMeal) {
            int added = Math.min(spoons, space());
            if (added <= 0) {
                return 0;
            }
            heat = quotient(heat * inside() + ROOM_TEMPERATURE * added, inside() + added);
            if (withMeal) {
                done = quotient(done * meal, meal + added);
                meal += added;
            } else {
                water += added;
            }
            return added;
        }

        void cool(int minutes) {
            heat = Math.max(ROOM_TEMPERATURE, heat - minutes / 2);
        }
    }

    /** All numbers that were told in all, of which the latest ones are kept. */
    private static final class History {
        private static final int KEPT = 20;

        private final int[] latest = new int[KEPT];
        private int total;

        void clear() {
            total = 0;
        }

        void add(int number) {
            int slot = Math.floorMod(total, KEPT);
            if (slot >= 0 && slot < latest.length) {
                latest[slot] = number;
                total++;
            }
        }

        int kept() {
            return Math.min(total, KEPT);
        }

        int recall(int back) {
            int slot = Math.floorMod(total - 1 - back, KEPT);
            return slot >= 0 && slot < latest.length ? latest[slot] : 0;
        }
    }

    private static final class Kitchen {
        private static final int USUAL_SERVINGS = 4;

        private final Pan[] pans = new Pan[Book.MOST_PANS];
        private final History warnings = new History();
        private final History notes = new History();
        private final int[] ofKind = new int[WARNING_KINDS + 1];
        private Book book = new Book();
        private int altitude;
        private int servings = USUAL_SERVINGS;
        private int spoon = 1;
        private int minute;

        Kitchen() {
            for (int i = 0; i < pans.length; i++) {
                pans[i] = new Pan();
            }
        }

        void begin(Book newBook) {
            book = newBook;
            altitude = 0;
            servings = USUAL_SERVINGS;
            spoon = 1;
            minute = 0;
            forget();
            for (int i = 0; i < book.panCount; i++) {
                Pan pan = panAt(i);
                if (pan != null) {
                    pan.clear();
                    pan.holds = book.spoonsOf(i);
                }
            }
        }

        /** What was warned and noted does not become as in the other: here it is told what is new. */
        void become(Kitchen other) {
            book = other.book;
            altitude = other.altitude;
            servings = other.servings;
            spoon = other.spoon;
            minute = other.minute;
            forget();
            for (int i = 0; i < book.panCount; i++) {
                Pan pan = panAt(i);
                Pan like = other.panAt(i);
                if (pan != null && like != null) {
                    pan.become(like);
                }
            }
        }

        private void forget() {
            warnings.clear();
            notes.clear();
            for (int kind = 0; kind < ofKind.length; kind++) {
                ofKind[kind] = 0;
            }
        }

        /** The pan of this number, or null. */
        Pan panAt(int pan) {
            return pan >= 0 && pan < book.panCount && pan < pans.length ? pans[pan] : null;
        }

        int hotPans() {
            int hot = 0;
            for (int i = 0; i < book.panCount; i++) {
                Pan pan = panAt(i);
                if (pan != null && pan.heat > ROOM_TEMPERATURE) {
                    hot++;
                }
            }
            return hot;
        }

        void moveTo(int there) {
            altitude = there;
            for (int i = 0; i < book.panCount; i++) {
                Pan pan = panAt(i);
                if (pan != null && pan.water > 0) {
                    pan.heat = Math.min(pan.heat, boilingHeat());
                }
            }
        }

        /** Lets minutes go by, in which all pans cool but one (or none, with null). */
        void pass(int minutes, Pan busy) {
            minute += minutes;
            for (int i = 0; i < book.panCount; i++) {
                Pan pan = panAt(i);
                if (pan != null && pan != busy) {
                    pan.cool(minutes);
                }
            }
        }

        void warn(int kind) {
            warnings.add(kind);
            if (kind >= 0 && kind < ofKind.length) {
                ofKind[kind]++;
            }
        }

        int warningsOfKind(int kind) {
            return kind >= 0 && kind < ofKind.length ? ofKind[kind] : 0;
        }

        int boilingHeat() {
            return boilingHeatAt(altitude);
        }

        static int boilingHeatAt(int altitude) {
            return 100 - altitude / 3;
        }

        /** By how much minutes are multiplied, in hundredths. */
        static int slowness(int altitude) {
            return 100 + 5 * (100 - boilingHeatAt(altitude));
        }

        static int boilingMinutes(int told, int altitude) {
            return (told * slowness(altitude) + 99) / 100;
        }

        /** Counts in quarters, so that nothing is cut too early; with half a spoonful more, cutting gives the nearest. */
        int translated(int told) {
            int quarters = clamped(told, 0, MOST_TOLD) * servings;
            return quotient(quarters + 2 * spoon, 4 * spoon) * spoon;
        }
    }

    /** Does the acts of one recipe in a kitchen. */
    private static final class Cooking {
        private static final int OVERFLOWS = 1;
        private static final int TOO_HOT = 2;
        private static final int IS_EMPTY = 3;
        private static final int NOT_BOILING = 4;
        private static final int BOILS_DRY = 5;
        private static final int MOST_BEGUN = 100;
        // Six blocks in each other, in each of six recipes that cook the one before.
        private static final int MOST_BLOCKS = 36;
        private static final int MOST_VALUES = 5;
        private static final int MINUTES_OF_SPOON = 5;

        private final Kitchen kitchen;
        private int begun;
        private int firstWarningAct = -1;

        Cooking(Kitchen kitchen) {
            this.kitchen = kitchen;
        }

        /** Returns how many minutes it takes. */
        int run(int recipe) {
            begun = 0;
            firstWarningAct = -1;
            int start = kitchen.minute;
            doBlock(kitchen.book.blockOf(recipe), 0);
            return kitchen.minute - start;
        }

        private void doBlock(Act first, int around) {
            if (around >= MOST_BLOCKS) {
                return;
            }
            for (Act act = first; act != null && begun < MOST_BEGUN; act = act.next) {
                begun++;
                doAct(act, around);
            }
        }

        private void doAct(Act act, int around) {
            switch (act.kind) {
                case COOK:
                    doBlock(kitchen.book.blockOf(act.recipe), around + 1);
                    break;
                case AGAIN:
                    doAgain(act, around);
                    break;
                case IF:
                    doBlock(allAreSo(act.lastCompare) ? act.block : act.otherwise, around + 1);
                    break;
                case POUR:
                    doPour(act);
                    break;
                case HEAT:
                    doHeat(act);
                    break;
                case BOIL:
                    doBoil(act);
                    break;
                case EMPTY:
                    doEmpty(act);
                    break;
                case REST:
                    kitchen.pass(clamped(worth(act.value, 0), 0, LONGEST_REST), null);
                    break;
                default:
                    kitchen.notes.add(worth(act.value, 0));
                    break;
            }
        }

        private void doAgain(Act act, int around) {
            // Each time begins an act, or none does: more times than acts can begin make no difference.
            int times = Math.min(worth(act.value, 0), MOST_BEGUN);
            for (int i = 0; i < times; i++) {
                doBlock(act.block, around + 1);
            }
        }

        private void doPour(Act act) {
            Pan pan = kitchen.panAt(act.pan);
            if (pan == null) {
                return;
            }
            int spoons = kitchen.translated(worth(act.value, 0));
            if (pan.fill(spoons, act.poursMeal) < spoons) {
                warn(OVERFLOWS);
            }
            kitchen.pass(1, pan);
        }

        private void doHeat(Act act) {
            Pan pan = kitchen.panAt(act.pan);
            if (pan == null || pan.inside() == 0) {
                warn(IS_EMPTY);
                return;
            }
            int told = worth(act.value, 0);
            int boiling = kitchen.boilingHeat();
            if (told > boiling) {
                warn(TOO_HOT);
            }
            int wanted = Math.min(told, boiling);
            if (pan.heat < wanted) {
                int minutes = (wanted - pan.heat + 9) / 10;
                pan.heat = wanted;
                kitchen.pass(minutes, pan);
            }
        }

        private void doBoil(Act act) {
            Pan pan = kitchen.panAt(act.pan);
            if (pan == null || pan.water == 0 || pan.heat < kitchen.boilingHeat()) {
                warn(NOT_BOILING);
                return;
            }
            int told = clamped(worth(act.value, 0), 0, MOST_TOLD);
            int wanted = Kitchen.boilingMinutes(told, kitchen.altitude);
            int most = MINUTES_OF_SPOON * pan.water;
            if (wanted > most) {
                warn(BOILS_DRY);
            }
            int minutes = Math.min(wanted, most);
            pan.water -= minutes / MINUTES_OF_SPOON;
            if (pan.meal > 0) {
                int more = quotient(minutes * 100, Kitchen.slowness(kitchen.altitude));
                pan.done = Math.min(100, pan.done + more);
            }
            pan.heat = kitchen.boilingHeat();
            kitchen.pass(minutes, pan);
        }

        private void doEmpty(Act act) {
            Pan pan = kitchen.panAt(act.pan);
            if (pan != null) {
                pan.clear();
            }
            kitchen.pass(1, pan);
        }

        private void warn(int kind) {
            kitchen.warn(kind);
            // Acts that warn begin no others, so that the latest one begun is the one that warns.
            if (firstWarningAct < 0) {
                firstWarningAct = begun;
            }
        }

        private boolean allAreSo(Value lastCompare) {
            for (Value compare = lastCompare; compare != null; compare = compare.ahead) {
                int left = worth(compare.left, 0);
                int right = worth(compare.right, 0);
                boolean isSo = compare.kind == Kind.LESS && left < right
                    || compare.kind == Kind.GREATER && left > right
                    || compare.kind == Kind.EQUAL && left == right;
                if (!isSo) {
                    return false;
                }
            }
            return true;
        }

        private int worth(Value value, int around) {
            if (value == null || around >= MOST_VALUES) {
                return 0;
            }
            switch (value.kind) {
                case NUMBER:
                    return value.number;
                case PLUS:
                    return worth(value.left, around + 1) + worth(value.right, around + 1);
                case MINUS:
                    return worth(value.left, around + 1) - worth(value.right, around + 1);
                case TIMES:
                    return worth(value.left, around + 1) * worth(value.right, around + 1);
                case OVER:
                    return quotient(worth(value.left, around + 1), worth(value.right, around + 1));
                case ALTITUDE:
                    return kitchen.altitude;
                case BOILING:
                    return kitchen.boilingHeat();
                case MINUTE:
                    return kitchen.minute;
                case SERVINGS:
                    return kitchen.servings;
                case SPOON:
                    return kitchen.spoon;
                default:
                    return contentOf(kitchen.panAt(value.number), value.kind);
            }
        }

        private static int contentOf(Pan pan, Kind kind) {
            if (pan == null) {
                return 0;
            }
            switch (kind) {
                case WATER:
                    return pan.water;
                case MEAL:
                    return pan.meal;
                case HEAT:
                    return pan.heat;
                case DONE:
                    return pan.done;
                default:
                    return pan.space();
            }
        }
    }
}
