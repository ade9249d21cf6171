import java.nio.charset.StandardCharsets;
import java.util.ArrayDeque;
import java.util.ArrayList;
import java.util.Arrays;
import java.util.HashMap;
import java.util.List;
import java.util.Map;
import java.util.Set;
import java.util.regex.Matcher;
import java.util.regex.Pattern;

/**
 * The document once more, in another way than the class does it, to compare the two: the grammar is a stack of what is
 * still to come, names are looked at behind it, and recipes are done from the tokens, not from a tree.
 */
final class Model {
    private static final Pattern TOKEN = Pattern.compile("[a-z]+|[0-9]+|[^ \n]", Pattern.DOTALL);
    private static final Set<String> WORDS = Set.of(("pan holds recipe pour water meal into heat to boil for empty rest "
        + "note cook again if and else altitude boiling minute servings spoon of done room").split(" "));
    private static final List<String> ACTS = List.of("pour", "heat", "boil", "empty", "rest", "note", "cook", "again", "if");
    private static final List<String> CONTENTS = List.of("water", "meal", "heat", "done", "room");
    private static final List<String> MEASURES = List.of("altitude", "boiling", "minute", "servings", "spoon");

    private static final class HundredActs extends RuntimeException {
        private static final long serialVersionUID = 1;
    }

    // the book
    List<String> tokens = new ArrayList<>();
    Map<String, Integer> panNames = new HashMap<>();
    Map<String, Integer> recipeBlocks = new HashMap<>();
    List<Integer> blocks = new ArrayList<>();
    int acts;
    int errorAt = -1;
    // the kitchen: rows of holds, water, meal, heat, done
    List<int[]> pans = new ArrayList<>();
    int altitude = 0;
    int servings = 4;
    int spoon = 1;
    int minute = 0;
    List<Integer> warnings = new ArrayList<>();
    List<Integer> notes = new ArrayList<>();
    // what the latest cooking did
    int begun;
    int firstWarning;
    private int at;

    int teach(byte[] tape) {
        String text = new String(tape, StandardCharsets.ISO_8859_1);
        List<String> read = new ArrayList<>();
        List<Integer> places = new ArrayList<>();
        Matcher matcher = TOKEN.matcher(text);
        while (matcher.find()) {
            read.add(matcher.group());
            places.add(matcher.start());
        }
        read.add("end of tape");
        places.add(text.length());
        int wrong = firstWrong(read);
        if (wrong >= 0) {
            errorAt = places.get(wrong);
            return 1;
        }
        int[] found = firstOtherError(read);
        if (found != null) {
            errorAt = places.get(found[1]);
            return found[0];
        }
        errorAt = -1;
        begin(read);
        return 0;
    }

    // ---- error 1

    private static String typeOf(String token) {
        if (token.matches("[a-z]+")) {
            return token.length() > 8 ? "bad" : WORDS.contains(token) ? token : "name";
        }
        if (token.matches("[0-9]+")) {
            return token.length() > 3 ? "bad" : "number";
        }
        return "();<>=+-*/".contains(token) || token.equals("end of tape") ? token : "bad";
    }

    private static int firstWrong(List<String> read) {
        ArrayDeque<String> toCome = new ArrayDeque<>(List.of("pans", "recipes", "end of tape"));
        for (int i = 0; i < read.size(); i++) {
            String type = typeOf(read.get(i));
            if (i >= 400 && !type.equals("end of tape")) {
                return i;
            }
            String next = toCome.pop();
            for (List<String> parts = partsOf(next, type); parts != null; parts = partsOf(next, type)) {
                for (int k = parts.size() - 1; k >= 0; k--) {
                    toCome.push(parts.get(k));
                }
                next = toCome.pop();
            }
            if (!next.equals(type)) {
                return i;
            }
        }
        return -1;
    }

    /** What a part of a book consists of, if this token comes; null for a token. A digit tells what lies around it. */
    private static List<String> partsOf(String part, String type) {
        char depth = part.charAt(part.length() - 1);
        String deeper = String.valueOf((char) (depth + 1));
        switch (part.replaceAll("[0-9]", "")) {
            case "pans":
                return type.equals("pan") ? List.of("pan", "name", "holds", "number", ";", "pans") : List.of();
            case "recipes":
                return type.equals("recipe") ? List.of("recipe", "name", "block0", "recipes") : List.of();
            case "block":
                return depth < '6' ? List.of("(", "acts" + depth, ")") : List.of("too deep");
            case "acts":
                return ACTS.contains(type) ? List.of(type + " act" + depth, "acts" + depth) : List.of();
            case "pour act":
                return List.of("pour", "value0", "waterormeal", "into", "name", ";");
            case "waterormeal":
                return List.of(type.equals("meal") ? "meal" : "water");
            case "heat act":
                return List.of("heat", "name", "to", "value0", ";");
            case "boil act":
                return List.of("boil", "name", "for", "value0", ";");
            case "empty act":
            case "cook act":
                return List.of(type, "name", ";");
            case "rest act":
            case "note act":
                return List.of(type, "value0", ";");
            case "again act":
                return List.of("again", "value0", "block" + deeper);
            case "if act":
                return List.of("if", "compare", "ands", "block" + deeper, "otherwise" + deeper);
            case "ands":
                return type.equals("and") ? List.of("and", "compare", "ands") : List.of();
            case "otherwise":
                return type.equals("else") ? List.of("else", "block" + depth) : List.of();
            case "compare":
                return List.of("value0", "<>=", "value0");
            case "value":
                if (type.equals("(")) {
                    return depth < '4' ? List.of("(", "value" + deeper, "+-*/", "value" + deeper, ")") : List.of("too deep");
                }
                return CONTENTS.contains(type) ? List.of(type, "of", "name")
                    : MEASURES.contains(type) ? List.of(type) : List.of("number");
            case "<>=":
            case "+-*/":
                return List.of(part.contains(type) ? type : part.substring(0, 1));
            default:
                return null;
        }
    }

    // ---- errors 2 to 5

    private static boolean beginsAct(List<String> read, int i) {
        return ACTS.contains(read.get(i)) && !(read.get(i).equals("heat") && read.get(i + 1).equals("of"));
    }

    private static int[] firstOtherError(List<String> read) {
        List<String> panNames = new ArrayList<>();
        List<String> recipeNames = new ArrayList<>();
        int acts = 0;
        for (int i = 0; i < read.size() - 1; i++) {
            String ahead = i == 0 ? "" : read.get(i - 1);
            String token = read.get(i);
            if (ahead.equals("pan") || ahead.equals("recipe")) {
                List<String> names = ahead.equals("pan") ? panNames : recipeNames;
                if (panNames.contains(token) || recipeNames.contains(token)) {
                    return new int[] {2, i};
                }
                names.add(token);
                if (names.size() > (ahead.equals("pan") ? 8 : 6)) {
                    return new int[] {4, i};
                }
            } else if (typeOf(token).equals("name")) {
                boolean known = ahead.equals("cook")
                    ? recipeNames.subList(0, recipeNames.size() - 1).contains(token)
                    : panNames.contains(token);
                if (!known) {
                    return new int[] {3, i};
                }
            } else if (ahead.equals("holds") && (Integer.parseInt(token) < 1 || Integer.parseInt(token) > 200)) {
                return new int[] {5, i};
            } else if (beginsAct(read, i)) {
                acts++;
                if (acts == 81) {
                    return new int[] {4, i};
                }
            }
        }
        return null;
    }

    private void begin(List<String> read) {
        tokens = read;
        panNames = new HashMap<>();
        recipeBlocks = new HashMap<>();
        blocks = new ArrayList<>();
        pans = new ArrayList<>();
        warnings = new ArrayList<>();
        notes = new ArrayList<>();
        altitude = 0;
        servings = 4;
        spoon = 1;
        minute = 0;
        acts = 0;
        for (int i = 0; i < read.size() - 1; i++) {
            if (read.get(i).equals("pan")) {
                panNames.put(read.get(i + 1), pans.size());
                pans.add(new int[] {Integer.parseInt(read.get(i + 3)), 0, 0, 20, 0});
            } else if (read.get(i).equals("recipe")) {
                recipeBlocks.put(read.get(i + 1), i + 2);
                blocks.add(i + 2);
            } else if (beginsAct(read, i)) {
                acts++;
            }
        }
    }

    // ---- the kitchen

    Model copy() {
        Model other = new Model();
        other.tokens = tokens;
        other.panNames = panNames;
        other.recipeBlocks = recipeBlocks;
        other.blocks = blocks;
        for (int[] pan : pans) {
            other.pans.add(pan.clone());
        }
        other.altitude = altitude;
        other.servings = servings;
        other.spoon = spoon;
        other.minute = minute;
        return other;
    }

    static int boilingAt(int altitude) {
        return 100 - altitude / 3;
    }

    static int minutesAt(int minutes, int altitude) {
        int by = 100 + 5 * (100 - boilingAt(altitude));
        int product = minutes * by;
        return product % 100 == 0 ? product / 100 : product / 100 + 1;
    }

    /** Tries all multiples, in quarters of a spoon. */
    int amountFor(int told) {
        int wanted = Math.max(0, Math.min(999, told)) * servings;
        int best = 0;
        for (int multiple = 0; multiple <= 3100; multiple += spoon) {
            if (Math.abs(4 * multiple - wanted) <= Math.abs(4 * best - wanted)) {
                best = multiple;
            }
        }
        return best;
    }

    void setAltitude(int there) {
        altitude = there;
        for (int[] pan : pans) {
            if (pan[1] > 0 && pan[3] > boilingAt(altitude)) {
                pan[3] = boilingAt(altitude);
            }
        }
    }

    int pour(int number, int spoons, boolean meal) {
        int[] pan = pans.get(number);
        int in = 0;
        while (in < spoons && pan[1] + pan[2] + in < pan[0]) {
            in++;
        }
        if (in > 0) {
            int was = pan[1] + pan[2];
            pan[3] = (pan[3] * was + 20 * in) / (was + in);
            if (meal) {
                pan[4] = pan[4] * pan[2] / (pan[2] + in);
            }
            pan[meal ? 2 : 1] += in;
        }
        return in;
    }

    int wash(int number) {
        int[] pan = pans.get(number);
        int was = pan[1] + pan[2];
        pans.set(number, new int[] {pan[0], 0, 0, 20, 0});
        return was;
    }

    void pass(int minutes, int busy) {
        minute += minutes;
        for (int i = 0; i < pans.size(); i++) {
            if (i != busy) {
                pans.get(i)[3] = Math.max(20, pans.get(i)[3] - minutes / 2);
            }
        }
    }

    // ---- cooking

    int cook(int recipe) {
        int before = minute;
        begun = 0;
        firstWarning = -1;
        try {
            block(blocks.get(recipe));
        } catch (HundredActs e) {
            // no more are begun
        }
        return minute - before;
    }

    private void warn(int kind) {
        warnings.add(kind);
        if (firstWarning < 0) {
            firstWarning = begun;
        }
    }

    private int behindBlock(int open) {
        int depth = 0;
        int i = open;
        do {
            depth += tokens.get(i).equals("(") ? 1 : tokens.get(i).equals(")") ? -1 : 0;
            i++;
        } while (depth > 0);
        return i;
    }

    private void block(int open) {
        at = open + 1;
        while (!tokens.get(at).equals(")")) {
            if (begun == 100) {
                throw new HundredActs();
            }
            begun++;
            act();
        }
        at++;
    }

    private String next() {
        return tokens.get(at++);
    }

    private void act() {
        String word = next();
        if (word.equals("again")) {
            int times = value();
            int open = at;
            for (int i = 0; i < times && !tokens.get(open + 1).equals(")"); i++) {
                block(open);
            }
            at = behindBlock(open);
        } else if (word.equals("if")) {
            conditional();
        } else if (word.equals("cook")) {
            int behind = at + 2;
            block(recipeBlocks.get(next()));
            at = behind;
        } else {
            simple(word);
            at++;
        }
    }

    private void conditional() {
        boolean so = compare();
        while (tokens.get(at).equals("and")) {
            at++;
            so &= compare();
        }
        int open = at;
        int behind = behindBlock(open);
        int otherwise = -1;
        if (tokens.get(behind).equals("else")) {
            otherwise = behind + 1;
            behind = behindBlock(otherwise);
        }
        if (so) {
            block(open);
        } else if (otherwise >= 0) {
            block(otherwise);
        }
        at = behind;
    }

    private boolean compare() {
        int left = value();
        String sign = next();
        int right = value();
        return sign.equals("<") ? left < right : sign.equals(">") ? left > right : left == right;
    }

    private void simple(String word) {
        if (word.equals("rest")) {
            pass(Math.max(0, Math.min(600, value())), -1);
        } else if (word.equals("note")) {
            notes.add(value());
        } else if (word.equals("empty")) {
            wash(panNames.get(next()));
            pass(1, -1);
        } else if (word.equals("pour")) {
            int spoons = amountFor(value());
            boolean meal = next().equals("meal");
            at++;
            int number = panNames.get(next());
            if (pour(number, spoons, meal) != spoons) {
                warn(1);
            }
            pass(1, number);
        } else {
            int number = panNames.get(next());
            at++;
            int value = value();
            if (word.equals("heat")) {
                heat(number, value);
            } else {
                boil(number, value);
            }
        }
    }

    private void heat(int number, int value) {
        int[] pan = pans.get(number);
        if (pan[1] == 0 && pan[2] == 0) {
            warn(3);
            return;
        }
        int to = value;
        if (to > boilingAt(altitude)) {
            warn(2);
            to = boilingAt(altitude);
        }
        int minutes = 0;
        for (int degrees = pan[3]; degrees < to; degrees += 10) {
            minutes++;
        }
        pan[3] = Math.max(pan[3], to);
        pass(minutes, number);
    }

    private void boil(int number, int value) {
        int[] pan = pans.get(number);
        int boiling = boilingAt(altitude);
        if (pan[1] == 0 || pan[3] < boiling) {
            warn(4);
            return;
        }
        int minutes = minutesAt(Math.max(0, Math.min(999, value)), altitude);
        if (minutes > 5 * pan[1]) {
            warn(5);
            minutes = 5 * pan[1];
        }
        pan[1] -= minutes / 5;
        if (pan[2] > 0) {
            pan[4] = Math.min(100, pan[4] + minutes * 100 / (100 + 5 * (100 - boiling)));
        }
        pan[3] = boiling;
        pass(minutes, number);
    }

    private int value() {
        String token = next();
        switch (token) {
            case "(":
                int left = value();
                String sign = next();
                int right = value();
                at++;
                return joined(left, sign, right);
            case "altitude":
                return altitude;
            case "boiling":
                return boilingAt(altitude);
            case "minute":
                return minute;
            case "servings":
                return servings;
            case "spoon":
                return spoon;
            default:
                break;
        }
        if (!CONTENTS.contains(token)) {
            return Integer.parseInt(token);
        }
        at++;
        int[] pan = pans.get(panNames.get(next()));
        return token.equals("room") ? pan[0] - pan[1] - pan[2] : pan[Arrays.asList("", "water", "meal", "heat", "done").indexOf(token)];
    }

    private static int joined(long left, String sign, long right) {
        switch (sign) {
            case "+":
                return (int) (left + right);
            case "-":
                return (int) (left - right);
            case "*":
                return (int) (left * right);
            default:
                return right == 0 ? 0 : (int) (left / right);
        }
    }

    // ---- what would be

    int highestSafe(int recipe) {
        int highest = -1;
        for (int there = 0; there <= 60; there++) {
            Model other = copy();
            other.setAltitude(there);
            other.cook(recipe);
            if (other.warnings.isEmpty()) {
                highest = there;
            }
        }
        return highest;
    }

    int mostServings(int recipe) {
        int most = -1;
        for (int many = 1; many <= 12; many++) {
            Model other = copy();
            other.servings = many;
            other.cook(recipe);
            if (!other.warnings.contains(1)) {
                most = many;
            }
        }
        return most;
    }

    double meanHeat() {
        double sum = 0;
        for (int[] pan : pans) {
            sum += pan[3];
        }
        return pans.isEmpty() ? 0 : sum / pans.size();
    }

    int countOf(int kind) {
        int count = 0;
        for (int warning : warnings) {
            count += warning == kind ? 1 : 0;
        }
        return count;
    }

    long digest() {
        List<Integer> row = new ArrayList<>(List.of(pans.size(), blocks.size(), acts, altitude, servings, spoon, minute));
        row.add(warnings.size());
        row.add(notes.size());
        for (int kind = 1; kind <= 5; kind++) {
            row.add(countOf(kind));
        }
        for (int[] pan : pans) {
            for (int number : pan) {
                row.add(number);
            }
        }
        for (List<Integer> history : List.of(warnings, notes)) {
            for (int back = 0; back < 20 && back < history.size(); back++) {
                row.add(history.get(history.size() - 1 - back));
            }
        }
        long d = 1913;
        for (int number : row) {
            d = d * 31 + number;
        }
        return d;
    }
}
