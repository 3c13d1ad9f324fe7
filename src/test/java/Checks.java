/** Counts the answers that are not as due, and feeds texts to objects. */
final class Checks {
    private int wrong;
    private int asked;

    void due(String call, long got, long want) {
        asked++;
        if (got != want) {
            wrong++;
            System.out.println(call + " answered " + got + ", due is " + want);
        }
    }

    /** Ends the test: exit code 1 if an answer was wrong. */
    void close(String name) {
        System.out.println(name + ": " + asked + " answers, " + wrong + " of them wrong");
        if (wrong != 0 || asked == 0) {
            System.exit(1);
        }
    }

    /** Feeds a text, filled up to whole calls by blanks, and cuts them off again. */
    static int feed(CardHolder x, String text) {
        int before = x.count(6);
        StringBuilder filled = new StringBuilder(text);
        while (filled.length() % 20 != 0) {
            filled.append(' ');
        }
        for (int i = 0; i < filled.length(); i += 20) {
            x.feed(number(filled, i), number(filled, i + 4), number(filled, i + 8),
                number(filled, i + 12), number(filled, i + 16));
        }
        return x.end(before + text.length());
    }

    static int number(CharSequence text, int i) {
        return text.charAt(i) << 24 | text.charAt(i + 1) << 16 | text.charAt(i + 2) << 8 | text.charAt(i + 3);
    }

    static CardHolder cityOf(String text) {
        CardHolder x = new CardHolder();
        feed(x, text);
        int lines = x.city();
        if (lines < 0) {
            throw new IllegalStateException("no city: " + text + ", fault " + x.fault(0) + " at " + x.fault(1));
        }
        return x;
    }

    static void row(CardHolder x, int slot, int width, long... numbers) {
        x.row(slot, width, numbers.length);
        for (int i = 0; i < numbers.length; i++) {
            x.write(slot, i, numbers[i]);
        }
    }
}
