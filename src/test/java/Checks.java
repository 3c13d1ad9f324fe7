import java.util.ArrayList;
import java.util.Arrays;
import java.util.List;

/** Counts the answers that are not as due, and feeds texts to objects. */
final class Checks {
    private int wrong;
    private int asked;
    private int promise;
    private final int[] askedOf = new int[67];

    void due(String call, long got, long want) {
        asked++;
        askedOf[promise]++;
        if (got != want) {
            wrong++;
            System.out.println(where() + call + " answered " + got + ", due is " + want);
        }
    }

    /** All of a list at once: where rows of answers are looked at. */
    void due(String call, List<Integer> got, List<Integer> want) {
        asked++;
        askedOf[promise]++;
        if (!got.equals(want)) {
            wrong++;
            System.out.println(where() + call + " answered " + got + ", due is " + want);
        }
    }

    private String where() {
        return promise == 0 ? "" : "promise " + promise + ": ";
    }

    /** The answers that follow are those of this promise. */
    void promise(int n) {
        promise = n;
    }

    /** Ends the test: exit code 1 if an answer was wrong. */
    void close(String name) {
        System.out.println(name + ": " + asked + " answers, " + wrong + " of them wrong");
        if (wrong != 0 || asked == 0) {
            System.exit(1);
        }
    }

    /** Ends the test; each of these promises must have been asked. */
    void close(String name, int first, int last) {
        for (int n = first; n <= last; n++) {
            if (askedOf[n] == 0) {
                wrong++;
                System.out.println("promise " + n + " has no check");
            }
        }
        close(name);
    }

    /** Feeds a text, filled up to whole calls by blanks, and cuts them off again. */
    static int feed(CardHolder x, String text) {
        int before = x.count(6);
        StringBuilder filled = new StringBuilder(text);
        while (filled.length() % 20 != 0) {
            filled.append(' ');
        }
        for (int i = 0; i < filled.length(); i += 20) {
            x.feed(number(filled, i), number(filled, i + 4), number(filled, i + 8),
                number(filled, i + 12), number(filled, i + 16));
        }
        return x.end(before + text.length());
    }

    static int number(CharSequence text, int i) {
        return text.charAt(i) << 24 | text.charAt(i + 1) << 16 | text.charAt(i + 2) << 8 | text.charAt(i + 3);
    }

    static CardHolder cityOf(String text) {
        CardHolder x = new CardHolder();
        feed(x, text);
        int lines = x.city();
        if (lines < 0) {
            throw new IllegalStateException("no city: " + text + ", fault " + x.fault(0) + " at " + x.fault(1));
        }
        return x;
    }

    /** The lines that tell who holds card 0, 1, ..; -1: it is not told. */
    static String cards(int... holders) {
        StringBuilder s = new StringBuilder();
        for (int card = 0; card < holders.length; card++) {
            if (holders[card] >= 0) {
                s.append("card ").append(card).append(" to ").append(holders[card]).append(';');
            }
        }
        return s.toString();
    }

    /** A city of persons worth 1 who neither do nor wish a thing. */
    static String plain(int wear, int... holders) {
        return "city wear " + wear + ";" + "person worth 1;".repeat(holders.length) + cards(holders);
    }

    static void row(CardHolder x, int slot, int width, long... numbers) {
        x.row(slot, width, numbers.length);
        for (int i = 0; i < numbers.length; i++) {
            x.write(slot, i, numbers[i]);
        }
    }

    /** What can be seen of the city and its acts: the same twice if nothing happened in between. */
    static List<Integer> view(CardHolder x) {
        List<Integer> seen = new ArrayList<>();
        for (int what = 0; what < 6; what++) {
            seen.add(x.count(what));
        }
        for (int what = 0; what < 4; what++) {
            seen.add(x.now(what));
        }
        for (int person = 0; person < x.count(0); person++) {
            for (int what = 0; what < 8; what++) {
                seen.add(x.person(person, what));
            }
        }
        return seen;
    }

    /** What the calls that need a city answer without one (in the document's order, free to anew). */
    void withoutCity(String when, CardHolder x) {
        List<Integer> got = Arrays.asList(x.person(0, 0), x.free(), x.under(0), x.time(0, 0), x.top(0), x.ring(0), x.rings(),
            x.chain(0, 0), x.doer(0, 0), x.asked(0, 0, 0), x.can(0), x.why(0, 0, 0), x.ask(0, 0, 0), x.give(0, 0, 0, 0),
            x.swap(0, 1), x.steal(0, 0), x.day(), x.undo(), x.anew(), x.now(0), x.now(1), x.now(2), x.now(3), x.own(),
            x.first(0), x.first(1), x.work(), x.works(0), x.cover(0), x.covers(0), x.buy(0), x.bought(0), x.deeds(0),
            x.hired(0), x.suspects(0), x.watch(0), x.leaves(0), x.proof(0), x.duel(0, 1, 0), x.duel(0, 1, 1), x.lays(0, 1),
            x.reply(0, 1), x.firm(0), x.firms(), x.firmest(), x.leave(0), x.ransom(0, 0), x.ransomed(0, 0), x.power(0),
            x.mighty(), x.covet(0), x.judge(0), x.freed(0), x.drawn(0, 0), x.luck(0, 1, 0), x.winds(0, 1), x.rate(0, 1),
            x.forge(0, 0));
        List<Integer> want = new ArrayList<>();
        for (int i = 0; i < got.size(); i++) {
            want.add(-2);
        }
        due(when + ", no city", got, want);
        due(when + ", lay", x.lay(0, 1), -1000);
        due(when + ", wins", x.wins(0, 0), -10000);
        for (int what = 0; what < 6; what++) {
            due(when + ", count(" + what + ")", x.count(what), 0);
        }
    }
}
