import java.util.ArrayDeque;
import java.util.Arrays;
import java.util.Deque;
import java.util.List;
import java.util.Random;
import java.util.regex.Matcher;
import java.util.regex.Pattern;

/** Texts with faults: a table of them, and random ones held against another reader. */
public final class TextTest {
    private static final List<String> WORDS = List.of("kink", "over", "under", "drift", "move", "rise", "fall", "plus", "and");
    /** What is due behind each word: P a place, a number: at most that, and the sign at the end. */
    private static final String[] BEHIND = {"P 99 ;", "P 99 ;", "P 99 ;", "P ;", "99 99 ;", ";", ";", "999 ;", "3 ;"};
    private static final Pattern TOKEN = Pattern.compile("[a-z]+|[0-9]+|[^a-z0-9]", Pattern.DOTALL);
    private static final Due due = new Due();

    public static void main(String[] args) {
        table();
        Random random = new Random(4);
        for (int i = 0; i < 60000; i++) {
            String text = randomText(random);
            int cost = random.nextInt(4);
            int[] want = readBy(text, cost);
            SlopeKeeper keeper = new SlopeKeeper();
            due.same("text of cost " + cost + ": " + text, want[0], Due.text(keeper, cost, text));
            due.same("place in cost " + cost + ": " + text, want[1], keeper.fault());
            due.same("steps", want[0] == 0 ? text.chars().filter(c -> c == ';').count() : 0, keeper.count(cost));
        }
        due.end();
    }

    private static void fails(String text, int fault, int place) {
        SlopeKeeper keeper = new SlopeKeeper();
        due.same(text, fault, Due.text(keeper, 1, text));
        due.same("place in " + text, place, keeper.fault());
        due.same("steps", 0, keeper.count(1));
        due.same("acts", 0, keeper.count(4));
        due.same("status", 1, keeper.count(7));
        due.same("another reader", fault, readBy(text, 1)[0]);
        due.same("another reader", place, readBy(text, 1)[1]);
    }

    private static void table() {
        fails("x;", 1, 0);
        fails("kinks 3 4;", 1, 0);
        fails("Kink 3 4;", 1, 0);
        fails("risez;", 1, 0);
        fails("arise;", 1, 0);
        fails("plus 5/;", 1, 6);
        fails("plus 5:;", 1, 6);
        fails("rise`;", 1, 4);
        fails("rise{;", 1, 4);
        fails("kin", 1, 0);
        fails(";", 1, 0);
        fails("  5;", 1, 2);
        fails("1234;", 1, 0);
        fails("-", 1, 0);
        fails("rise;;", 1, 5);
        fails("rise", 1, 4);
        fails("rise   ", 1, 7);
        fails("rise\t;", 1, 4);
        fails("rise\r;", 1, 4);
        fails("rise" + (char) 0 + ";", 1, 4);
        fails("rise;" + (char) 200, 1, 5);
        fails("rise;" + (char) 255, 1, 5);
        fails("rise 5;", 1, 5);
        fails("kink;", 1, 4);
        fails("kink --5 3;", 1, 6);
        fails("kink - -5 3;", 1, 7);
        fails("kink -;", 1, 6);
        fails("kink 5;", 1, 6);
        fails("kink 5 -3;", 1, 7);
        fails("kink 5 3 4;", 1, 9);
        fails("kink 5 3", 1, 8);
        fails("kink 5 3 rise;", 1, 9);
        fails("kink 501 3;", 2, 5);
        fails("kink -501 3;", 2, 6);
        fails("kink - 501 3;", 2, 7);
        fails("kink 0005 3;", 2, 5);
        fails("kink 5 100;", 2, 7);
        fails("kink 5 0099;", 2, 7);
        fails("over 501 3;", 2, 5);
        fails("over 5 100;", 2, 7);
        fails("under -999 3;", 2, 7);
        fails("under 5 999;", 2, 8);
        fails("drift 501;", 2, 6);
        fails("drift -501;", 2, 7);
        fails("move 100 3;", 2, 5);
        fails("move 3 100;", 2, 7);
        fails("move -3 1;", 1, 5);
        fails("move 1234;", 2, 5);
        fails("plus 1000;", 2, 5);
        fails("plus 99999999999999999999;", 2, 5);
        fails("plus -1;", 1, 5);
        fails("and 4;", 2, 4);
        fails("and 1;", 3, 4);
        fails("and 001;", 3, 4);
        fails("and -1;", 1, 4);
        fails("and 1111;", 2, 4);
        fails("rise;".repeat(41), 3, 200);
        fails("rise;".repeat(40) + "and 1;", 3, 200);
        fails("rise;".repeat(40) + "ris;", 1, 200);
        fails("rise;".repeat(40) + " 7", 1, 201);
        fails("rise;".repeat(40) + "kink 900 1;", 3, 200);
        fails("kink 900 x;", 2, 5);
        fails("kink 3 99; ".repeat(26), 4, 275);
        fails("kink 3 99; ".repeat(26) + "x", 1, 286);
        fails("drift 500;kink 500 1;" + "drift 500;".repeat(10), 4, 111);
        fails("drift -500;kink -500 1;" + "drift -500;".repeat(10), 4, 122);
        fails("kink 500 1;" + "drift 500;".repeat(8) + "drift 450;move 0 50;move 0 1;", 4, 111);
        SlopeKeeper keeper = new SlopeKeeper();
        due.same("right", 0, Due.text(keeper, 1, "kink-0 0;kink 500 99;kink -500 00;drift 500;plus 000;move 99 99;and 3;and 0;"));
        due.same("0", 0, keeper.step(1, 0, 1));
        due.same("right", 0, Due.text(keeper, 1, "rise;".repeat(39) + "fall ; \n"));
        due.same("40", 40, keeper.count(1));
        due.same("of the tape's first bytes alone", 0, keeper.feed(0x72697365, 0x3b783b3b, 0, 0, 0) - 20);
        due.same("right", 0, keeper.text(0, 5));
    }

    private static String randomText(Random random) {
        StringBuilder text = new StringBuilder();
        int clauses = random.nextInt(6) == 0 ? 38 + random.nextInt(5) : random.nextInt(5);
        for (int i = 0; i < clauses; i++) {
            int kind = clauses > 20 ? 5 + random.nextInt(2) : random.nextInt(9);
            text.append(blanks(random)).append(WORDS.get(kind));
            for (String due : BEHIND[kind].split(" ")) {
                text.append(blanks(random));
                if (due.equals("P")) {
                    text.append(random.nextBoolean() ? "-" : " ").append(blanks(random));
                }
                text.append(due.equals(";") ? ";" : " " + number(random, due));
            }
        }
        text.append(blanks(random));
        int spoilt = random.nextInt(3);
        for (int i = 0; i < spoilt && text.length() > 0; i++) {
            int place = random.nextInt(text.length());
            if (random.nextBoolean()) {
                text.deleteCharAt(place);
            } else {
                text.insert(place, "abkins0519;;-- \nA_".charAt(random.nextInt(18)));
            }
        }
        text.setLength(Math.min(text.length(), 600));
        return text.toString();
    }

    private static String blanks(Random random) {
        return random.nextInt(4) == 0 ? random.nextBoolean() ? " " : "\n " : "";
    }

    private static int number(Random random, String due) {
        int highest = due.equals("P") ? 500 : Integer.parseInt(due);
        return random.nextInt(12) == 0 ? random.nextInt(1100) : random.nextInt(highest + 1);
    }

    /** The fault and its place, by a list of what is due next. */
    private static int[] readBy(String text, int cost) {
        Deque<String> next = new ArrayDeque<>();
        int steps = 0;
        boolean and = false;
        Matcher tokens = TOKEN.matcher(text);
        while (tokens.find()) {
            String token = tokens.group();
            int at = tokens.start();
            if (token.equals(" ") || token.equals("\n")) {
                continue;
            }
            if (next.isEmpty()) {
                int kind = WORDS.indexOf(token);
                if (kind < 0) {
                    return new int[] {1, at};
                }
                if (++steps > 40) {
                    return new int[] {3, at};
                }
                and = kind == 8;
                next.addAll(Arrays.asList(BEHIND[kind].split(" ")));
                continue;
            }
            String wanted = next.pop();
            boolean isNumber = Character.isDigit(token.charAt(0));
            if (wanted.equals("P") && token.equals("-")) {
                next.push("500");
            } else if (wanted.equals(";") ? !token.equals(";") : !isNumber) {
                return new int[] {1, at};
            } else if (isNumber) {
                int highest = wanted.equals("P") ? 500 : Integer.parseInt(wanted);
                if (token.length() > 3 || Integer.parseInt(token) > highest) {
                    return new int[] {2, at};
                }
                if (and && Integer.parseInt(token) == cost) {
                    return new int[] {3, at};
                }
            }
        }
        if (!next.isEmpty()) {
            return new int[] {1, text.length()};
        }
        return tooMuchOf(text);
    }

    /** Enough for the table's texts: kinks of one weight, or one kink that goes too far; random ones never do. */
    private static int[] tooMuchOf(String text) {
        int[] far = {0, 0};
        int weights = 0;
        Matcher clauses = Pattern.compile("([a-z]+)[ \n]*(-?)[ \n]*([0-9]*)[ \n]*([0-9]*)[ \n]*;").matcher(text);
        boolean any = false;
        while (clauses.find()) {
            int a = clauses.group(3).isEmpty() ? 0 : Integer.parseInt(clauses.group(2) + clauses.group(3));
            int b = clauses.group(4).isEmpty() ? 0 : Integer.parseInt(clauses.group(4));
            switch (clauses.group(1)) {
                case "kink":
                    weights += 2 * b;
                    far[0] = any ? Math.min(far[0], a) : a;
                    far[1] = any ? Math.max(far[1], a) : a;
                    any = any || b > 0;
                    break;
                case "drift":
                    far[0] += a;
                    far[1] += a;
                    break;
                case "move":
                    far[0] -= a;
                    far[1] += b;
                    break;
                default:
                    break;
            }
            if (weights > 5000 || (any && (far[0] < -5000 || far[1] > 5000))) {
                return new int[] {4, clauses.start()};
            }
        }
        return new int[] {0, SlopeKeeper.NONE};
    }
}
