import java.util.NoSuchElementException;

/** Counts answers that are not the ones that are due; the tests of the project share it. */
final class Due {
    /** What a call answers that throws, told as a number that no call answers otherwise. */
    static final long NO_SUCH = Long.MIN_VALUE + 1;
    static final long ILLEGAL = Long.MIN_VALUE + 2;
    static final long OTHER = Long.MIN_VALUE + 3;

    interface Call {
        long answer();
    }

    private int wrong;
    private int asked;

    void is(String call, long want, Call made) {
        same(call, want, answerOf(made));
    }

    void same(String call, long want, long got) {
        asked++;
        if (got != want) {
            wrong++;
            if (wrong <= 40) {
                System.out.println(call + " answered " + shown(got) + ", due is " + shown(want));
            }
        }
    }

    static long answerOf(Call made) {
        try {
            return made.answer();
        } catch (NoSuchElementException e) {
            return NO_SUCH;
        } catch (IllegalArgumentException e) {
            return ILLEGAL;
        } catch (RuntimeException e) {
            System.out.println("a call threw " + e);
            return OTHER;
        }
    }

    private static String shown(long answer) {
        if (answer == NO_SUCH) {
            return "throws.NoSuchElementException";
        }
        if (answer == ILLEGAL) {
            return "throws.IllegalArgumentException";
        }
        return answer == OTHER ? "throws.(another exception)" : Long.toString(answer);
    }

    int asked() {
        return asked;
    }

    boolean hasWrong() {
        return wrong > 0;
    }

    void end() {
        System.out.println(wrong == 0 ? asked + " answers are as due" : wrong + " of " + asked + " answers are not as due");
        if (wrong > 0 || asked == 0) {
            System.exit(1);
        }
    }

    /** Feeds a text, filled up with blanks behind it; its length. */
    static int feed(SlopeKeeper keeper, String text) {
        StringBuilder filled = new StringBuilder(text);
        while (filled.length() % 20 != 0) {
            filled.append(' ');
        }
        for (int i = 0; i < filled.length(); i += 20) {
            keeper.feed(four(filled, i), four(filled, i + 4), four(filled, i + 8), four(filled, i + 12), four(filled, i + 16));
        }
        return text.length();
    }

    private static int four(CharSequence text, int i) {
        return (text.charAt(i) & 255) << 24 | (text.charAt(i + 1) & 255) << 16 | (text.charAt(i + 2) & 255) << 8 | text.charAt(i + 3) & 255;
    }

    static int text(SlopeKeeper keeper, int cost, String text) {
        int length = feed(keeper, text);
        return keeper.text(cost, length);
    }

    static String told(SlopeKeeper keeper, int cost) {
        StringBuilder told = new StringBuilder();
        int length = keeper.told(cost, SlopeKeeper.NONE);
        for (int i = 0; i < length; i++) {
            told.append((char) keeper.told(cost, i));
        }
        return told.toString();
    }
}
