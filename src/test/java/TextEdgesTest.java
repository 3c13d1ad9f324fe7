import java.util.List;

/** Promises 1 to 5 and what Term I says of texts, at their edges. */
public final class TextEdgesTest {
    private static final Checks C = new Checks();
    private static final int BLANKS = 0x20202020;
    private static final int SIGNS = 0x3b3b3b3b;
    private static final int MIN = Integer.MIN_VALUE;
    private static final int MAX = Integer.MAX_VALUE;
    private static final String ONE = "city wear 3;person worth 5;";
    private static final String EIGHT = "city wear 3;" + "person worth 5;".repeat(8);

    public static void main(String[] args) {
        newObject();
        feeding();
        fullTape();
        ending();
        cities();
        cityIsReplaced();
        cityStays();
        faultsAreOfTheLatest();
        bounds();
        cards();
        signs();
        grammar();
        ninthPerson();
        leastOfOnePlace();
        C.close("TextEdgesTest", 1, 5);
    }

    private static void newObject() {
        C.promise(1);
        CardHolder x = new CardHolder();
        C.withoutCity("new", x);
        C.due("no tape", x.count(6), 0);
        C.due("no rows", x.count(7), 0);
        C.due("no images", x.back(0), -6);
        C.due("no images", x.back(1), -6);
        C.due("no images", x.back(2), -6);
        CardHolder y = Checks.cityOf(EIGHT);
        C.due("another object's city", y.count(0), 8);
        C.due("is its own", x.count(0), 0);
    }

    private static void feeding() {
        C.promise(2);
        CardHolder x = new CardHolder();
        C.due("twenty", x.feed(0x63697479, 0x20776561, 0x7220333b, 0x70657273, 0x6f6e2077), 20);
        C.due("twenty behind them", x.feed(0x6f727468, 0x20373b20, BLANKS, BLANKS, BLANKS), 40);
        C.due("forty", x.count(6), 40);
        C.due("the highest byte first", x.city(), 2);
        C.due("wear", x.count(1), 3);
        C.due("worth", x.person(0, 0), 7);
        C.due("all bits", x.feed(-1, MIN, MAX, 0, 1), 20);
        C.due("a byte of 255", x.city(), -4);
        C.due("is none", x.fault(0), 1);
        C.due("at the start", x.fault(1), 0);
        x.end(0);
        x.feed(0x20202080, BLANKS, BLANKS, BLANKS, BLANKS);
        C.due("a byte of 128", x.city(), -4);
        C.due("the lowest is the fourth", x.fault(1), 3);
        x.end(0);
        x.feed(BLANKS, BLANKS, BLANKS, BLANKS, 0x20200020);
        C.due("a byte of 0", x.city(), -4);
        C.due("in the last number", x.fault(1), 18);
    }

    private static void fullTape() {
        C.promise(2);
        CardHolder x = new CardHolder();
        Checks.feed(x, "city wear 3;        ");
        for (int size = 40; size <= 900; size += 20) {
            C.due("up to " + size, x.feed(BLANKS, BLANKS, BLANKS, BLANKS, BLANKS), size);
        }
        C.due("full", x.feed(SIGNS, SIGNS, SIGNS, SIGNS, SIGNS), -1);
        C.due("still 900", x.count(6), 900);
        for (int size = 899; size > 880; size--) {
            x.end(size);
            C.due("more than 900 from " + size, x.feed(SIGNS, SIGNS, SIGNS, SIGNS, SIGNS), -1);
            C.due("none come", x.count(6), size);
        }
        x.end(880);
        C.due("900 from 880", x.feed(BLANKS, BLANKS, BLANKS, BLANKS, BLANKS), 900);
        C.due("900 bytes are read, and none of the refused", x.city(), 1);
        C.due("empty then", x.count(6), 0);
        C.due("room again", x.feed(SIGNS, SIGNS, SIGNS, SIGNS, SIGNS), 20);
    }

    private static void ending() {
        C.promise(3);
        CardHolder x = new CardHolder();
        C.due("0 of none", x.end(0), 0);
        C.due("1 of none", x.end(1), -1);
        C.due("below 0 of none", x.end(-1), -1);
        Checks.feed(x, "city wear 3;;;;;;;;;");
        C.due("21 of 20", x.end(21), -1);
        C.due("MAX", x.end(MAX), -1);
        C.due("-1", x.end(-1), -1);
        C.due("MIN", x.end(MIN), -1);
        C.due("nothing happens", x.count(6), 20);
        C.due("all", x.end(20), 20);
        C.due("all stay", x.count(6), 20);
        C.due("the first 12", x.end(12), 12);
        C.due("are 12", x.count(6), 12);
        C.due("13 are no more", x.end(13), -1);
        C.due("still 12", x.count(6), 12);
        C.due("twenty behind the 12", x.feed(BLANKS, BLANKS, BLANKS, BLANKS, BLANKS), 32);
        C.due("the first ones are kept, the cut ones gone", x.city(), 1);
        x.feed(SIGNS, SIGNS, SIGNS, SIGNS, SIGNS);
        C.due("none", x.end(0), 0);
        C.due("none", x.count(6), 0);
        C.due("nothing to read", x.city(), 0);
    }

    private static void cities() {
        C.promise(4);
        good("", 0);
        good(" ", 0);
        good("\n", 0);
        good(" \n ".repeat(300), 0);
        good("city wear 1;", 1);
        good("\n city\nwear \n 9 \n; \n", 1);
        good("city wear3;person worth5does0wishes5;card0to0forged;", 3);
        good(EIGHT, 9);
        good(EIGHT + Checks.cards(7, 6, 5, 4, 3, 2, 1, 0), 17);
        good(ONE + "card 0 to 0;person worth 6;card 1 to 0;", 5);
        CardHolder x = Checks.cityOf(ONE + "card 0 to 0;person worth 6;card 1 to 0;");
        C.due("numbered as they stand", x.person(0, 0), 5);
        C.due("numbered as they stand", x.person(1, 0), 6);
        C.due("H may be P", x.person(0, 2), 0);
        CardHolder y = Checks.cityOf("city wear 3;person worth 5 does 1 1 4 1 wishes 2 2 0 2;");
        C.due("like ones count once", y.person(0, 1), 18);
        C.due("like ones count once", y.person(0, 4), 5);
        C.due("not told is free", y.free(), 1);
    }

    private static void cityIsReplaced() {
        C.promise(4);
        String text = "city wear 2;person worth 5 does 1;person worth 6 does 2;" + Checks.cards(1, 0);
        List<Integer> fresh = Checks.view(Checks.cityOf(text));
        CardHolder x = Checks.cityOf(EIGHT + "card 0 to 7 forged;card 1 to 7 forged;");
        Checks.feed(x, text);
        C.due("in place of a larger one", x.city(), 5);
        C.due("nothing is left of it", Checks.view(x), fresh);
        x.rate(0, 9);
        x.forge(1, 1);
        x.ask(1, 0, 1);
        x.day();
        x.ask(1, 0, 1);
        x.steal(0, 0);
        x.steal(1, 1);
        Checks.feed(x, text);
        C.due("in place of one with acts", x.city(), 5);
        C.due("nothing done", Checks.view(x), fresh);
        C.due("empty then", x.count(6), 0);
        C.due("of the empty tape", x.city(), 0);
        C.withoutCity("there is none then", x);
        C.due("no lines, no fault", x.fault(0), 0);
        C.due("still none", x.city(), 0);
    }

    private static void cityStays() {
        C.promise(4);
        CardHolder x = Checks.cityOf("city wear 2;person worth 5 does 1;person worth 6 does 2;" + Checks.cards(1, 0));
        x.steal(0, 0);
        x.ask(0, 0, 1);
        x.image(0);
        x.steal(1, 1);
        x.row(2, 1, 4);
        List<Integer> before = Checks.view(x);
        Checks.feed(x, "city wear 5;person worth 999 does 5;card 0 to 0");
        C.due("the last sign is missing", x.city(), -4);
        C.due("the city and its acts stay", Checks.view(x), before);
        C.due("the tape stays", x.count(6), 47);
        C.due("the rows stay", x.count(7), 1);
        C.due("asked again", x.city(), -4);
        C.due("its place again", x.fault(1), 47);
        C.due("undo", x.undo(), 2);
        C.due("the image stays", x.back(0), 0);
        C.due("as it was", x.count(4), 2);
        Checks.feed(x, ";");
        C.due("mended by what comes behind", x.city(), 3);
        C.due("that one now", x.person(0, 0), 999);
    }

    private static void faultsAreOfTheLatest() {
        C.promise(5);
        CardHolder x = new CardHolder();
        C.due("ahead of any, what 0", x.fault(0), 0);
        C.due("ahead of any, what 1", x.fault(1), -1);
        otherWhats(x);
        Checks.feed(x, "city wear 0;");
        C.due("ahead of any still, what 0", x.fault(0), 0);
        C.due("ahead of any still, what 1", x.fault(1), -1);
        x.city();
        C.due("its fault", x.fault(0), 2);
        C.due("its place", x.fault(1), 10);
        otherWhats(x);
        x.image(0);
        x.end(0);
        Checks.feed(x, ONE);
        x.back(0);
        C.due("till the next city(), what 0", x.fault(0), 2);
        C.due("till the next city(), what 1", x.fault(1), 10);
        x.city();
        C.due("without, what 0", x.fault(0), 0);
        C.due("without, what 1", x.fault(1), -1);
        otherWhats(x);
    }

    private static void otherWhats(CardHolder x) {
        for (int what : new int[] {2, 3, -1, MIN, MAX}) {
            C.due("fault(" + what + ")", x.fault(what), -1);
        }
    }

    private static void bounds() {
        C.promise(5);
        for (String n : List.of("1", "9", "09", "0000000000000000000000001")) {
            good("city wear " + n + ";", 1);
        }
        for (String n : List.of("0", "10", "00", "99", "4294967297", "2147483649", "18446744073709551617", "9".repeat(300))) {
            bad("city wear " + n + ";", 2, 10);
        }
        for (String n : List.of("1", "999", "0999")) {
            good("city wear 3;person worth " + n + ";", 2);
        }
        for (String n : List.of("0", "1000", "000", "9999", "4294967297", "18446744073709551617", "10000000000")) {
            bad("city wear 3;person worth " + n + ";", 2, 25);
        }
        for (String word : List.of("does", "wishes")) {
            good("city wear 3;person worth 5 " + word + " 0;", 2);
            good("city wear 3;person worth 5 " + word + " 5 0 5;", 2);
            for (String n : List.of("6", "7", "32", "64", "4294967296", "18446744073709551616")) {
                bad("city wear 3;person worth 5 " + word + " " + n + ";", 2, 28 + word.length());
                bad("city wear 3;person worth 5 " + word + " 5 " + n + ";", 2, 30 + word.length());
            }
        }
    }

    private static void cards() {
        C.promise(5);
        bad("city wear 3;card 0 to 0;", 2, 17);
        good(ONE + "card 0 to 0;", 3);
        bad(ONE + "card 1 to 0;", 2, 32);
        bad(ONE + "card 0 to 1;", 2, 37);
        bad(ONE + "card 0 to 1;person worth 5;", 2, 37);
        bad(ONE + "card 4294967296 to 0;", 2, 32);
        bad(ONE + "card 0 to 4294967296;", 2, 37);
        bad(ONE + "card 0 to 0;card 0 to 0;", 2, 44);
        bad(ONE + "card 0 to 0;card 0 to 9;", 2, 44);
        bad(ONE + "card 0 to 0;card 0 ;", 2, 44);
        bad(ONE + "card 0 to 0;card 00 to 0;", 2, 44);
        good(EIGHT + "card 7 to 7;", 10);
        bad(EIGHT + "card 8 to 7;", 2, 137);
        bad(EIGHT + "card 7 to 8;", 2, 142);
        good(EIGHT + "card 1 to 0;card 2 to 0;", 11);
        good(EIGHT + "card 0 to 1;card 1 to 0 forged;", 11);
    }

    /** Each of the 256 bytes, put where only blanks can stand, or what makes another token. */
    private static void signs() {
        C.promise(5);
        for (int i = 0; i < 256; i++) {
            char sign = (char) i;
            boolean letter = i >= 'a' && i <= 'z';
            boolean digit = i >= '0' && i <= '9';
            if (i == 32 || i == 10) {
                good(sign + "city wear 3;", 1);
                good("city" + sign + "wear 3;", 1);
                good("city wear 3" + sign + ";", 1);
                good("city wear 3;" + sign, 1);
            } else {
                bad(sign + "city wear 3;", 1, 0);
                bad("city" + sign + "wear 3;", 1, letter ? 0 : 4);
                bad("city wear 3" + sign + ";", digit ? 2 : 1, digit ? 10 : i == ';' ? 12 : 11);
                bad("city wear 3;" + sign, 1, 12);
            }
        }
    }

    private static final String[] TOKENS = {"city", "wear", "3", ";", "person", "worth", "5", "does", "0", "1", "wishes", "2",
        "3", ";", "card", "0", "to", "0", "forged", ";"};
    /** Behind so many of the tokens a number can stand. */
    private static final List<Integer> NUMBERS = List.of(2, 6, 8, 9, 10, 11, 12, 13, 15, 17);
    /** Behind so many of the tokens a line can end. */
    private static final List<Integer> LINE_ENDS = List.of(3, 7, 9, 10, 12, 13, 18, 19);

    private static final List<String> NO_WORDS = List.of("x", "citys", "cit", "persons", "cards", "todo", "forge", "doe", "wish",
        "#", "xity", "cixy", "citx", "xear", "xerson", "xorth", "xoes", "xishes", "xard", "xo", "xorged");

    private static void grammar() {
        C.promise(5);
        StringBuilder ahead = new StringBuilder();
        int lines = 0;
        for (int k = 0; k <= TOKENS.length; k++) {
            int place = ahead.length();
            boolean whole = k == 0 || TOKENS[k - 1].equals(";");
            if (whole) {
                good(ahead.toString(), lines);
            } else {
                bad(ahead.toString(), 1, place);
                bad(ahead + "\n\n", 1, place + 2);
            }
            bad(ahead + "77777 ;", NUMBERS.contains(k) ? 2 : 1, place);
            if (!LINE_ENDS.contains(k)) {
                bad(ahead + ";", 1, place);
            }
            for (String word : NO_WORDS) {
                bad(ahead + word, 1, place);
            }
            for (String word : List.of("city", "wear", "person", "worth", "does", "wishes", "card", "to", "forged")) {
                if (!canStand(word, k)) {
                    bad(ahead + word + " ", 1, place);
                }
            }
            if (k < TOKENS.length) {
                ahead.append(TOKENS[k]).append(' ');
                lines += TOKENS[k].equals(";") ? 1 : 0;
            }
        }
    }

    private static boolean canStand(String word, int k) {
        boolean lineStart = k == 4 || k == 14 || k == 20;
        switch (word) {
            case "city":
                return k == 0;
            case "person": case "card":
                return lineStart;
            case "wishes":
                return k == 7 || k == 9 || k == 10;
            default:
                return k < TOKENS.length && TOKENS[k].equals(word);
        }
    }

    private static void ninthPerson() {
        C.promise(5);
        bad(EIGHT + "person", 3, 132);
        bad(EIGHT + "person worth 5;", 3, 132);
        bad(EIGHT + "person #", 3, 132);
        bad(EIGHT + "card 0 to 0; person worth 0", 3, 145);
        bad(EIGHT + "persons", 1, 132);
        bad(EIGHT + "city", 1, 132);
    }

    private static void leastOfOnePlace() {
        C.promise(5);
        bad("city 99;", 1, 5);
        bad("99", 1, 0);
        bad("city wear 3 99;", 1, 12);
        bad(EIGHT.substring(0, 131) + "person", 1, 131);
        bad(ONE + "card 0 99;", 1, 34);
        bad("city wear 0", 2, 10);
        bad("city wear 0 # 1", 2, 10);
        bad("city # wear 0;", 1, 5);
        bad("person", 1, 0);
        bad("card", 1, 0);
        bad(";", 1, 0);
    }

    private static void good(String text, int lines) {
        CardHolder x = new CardHolder();
        Checks.feed(x, text);
        C.due("city of " + text, x.city(), lines);
        C.due("no fault of " + text, x.fault(0), 0);
        C.due("no place of " + text, x.fault(1), -1);
        C.due("tape behind " + text, x.count(6), 0);
        C.due("lines of " + text, x.count(5), lines);
    }

    private static void bad(String text, int fault, int place) {
        CardHolder x = new CardHolder();
        Checks.feed(x, text);
        C.due("city of " + text, x.city(), -4);
        C.due("fault of " + text, x.fault(0), fault);
        C.due("place of " + text, x.fault(1), place);
        C.due("tape behind " + text, x.count(6), text.length());
        C.due("no city by " + text, x.free(), -2);
    }
}
