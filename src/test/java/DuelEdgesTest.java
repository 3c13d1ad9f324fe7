import java.util.List;

/** Promises 40 to 53 and Terms V and VI at their edges. */
public final class DuelEdgesTest {
    private static final Checks C = new Checks();
    private static final int MIN = Integer.MIN_VALUE;
    private static final int MAX = Integer.MAX_VALUE;
    private static final String NOBODY = "city wear 1;";

    public static void main(String[] args) {
        duel();
        noDuels();
        lay();
        lays();
        reply();
        firm();
        firms();
        firmest();
        wins();
        leave();
        ransom();
        ransomed();
        power();
        mighty();
        covet();
        C.close("DuelEdgesTest", 40, 53);
    }

    /** A city of persons of these worths who do nothing. */
    private static String worths(int... worths) {
        StringBuilder s = new StringBuilder("city wear 1;");
        for (int worth : worths) {
            s.append("person worth ").append(worth).append(';');
        }
        return s.toString();
    }

    private static void duel() {
        C.promise(40);
        fraction(worths(10, 20, 30, 40, 10, 20, 30, 40) + Checks.cards(0, 0, 0, 0, 4, 4, 4, 4), 0, 4, 3, 8);
        fraction(worths(1, 9, 2) + Checks.cards(-1, 0, 1), 0, 1, 1, 1);
        fraction(worths(1, 9, 2) + Checks.cards(-1, 0, 1), 1, 0, 0, 1);
        fraction(worths(1, 9, 9) + Checks.cards(-1, 0, 1), 0, 1, 0, 1);
        fraction(worths(999, 998) + Checks.cards(0, 1), 0, 1, 1, 1);
        fraction(worths(1, 2, 3, 4, 5, 6, 7, 4) + Checks.cards(0, 0, 0, 0, 0, 0, 0, 1), 0, 1, 3, 7);
        fraction(worths(1, 2, 3, 4, 5, 6, 7, 4) + Checks.cards(0, 0, 0, 0, 0, 0, 0, 1), 1, 0, 3, 7);
        fraction(worths(1, 2, 9, 9, 5, 5) + Checks.cards(0, 0, 0, 0, 1, 1), 0, 1, 1, 2);
        fraction(worths(1, 3, 2, 4) + Checks.cards(0, 0, 1, 1), 0, 1, 1, 4);
        fraction(worths(1, 3, 2, 4) + Checks.cards(0, 0, 1, 1), 1, 0, 3, 4);
    }

    private static void fraction(String text, int person, int other, int above, int below) {
        CardHolder x = Checks.cityOf(text);
        C.due("above, " + text, x.duel(person, other, 0), above);
        C.due("below, " + text, x.duel(person, other, 1), below);
        for (int what : new int[] {-1, 2, MIN, MAX}) {
            C.due("what " + what, x.duel(person, other, what), -2);
        }
    }

    /** 0 holds 2, 1 holds 3; 2 and 3 hold none. */
    private static final String PAIR = worths(1, 1, 8, 6) + Checks.cards(-1, -1, 0, 1);

    private static void noDuels() {
        CardHolder x = Checks.cityOf(PAIR);
        for (int none : new int[] {-1, 4, 8, 31, 32, MIN, MAX}) {
            noDuel("none such, " + none, x, none, 0);
            noDuel("none such, " + none, x, 0, none);
        }
        noDuel("one twice", x, 0, 0);
        noDuel("the first hand is empty", x, 2, 0);
        noDuel("the second hand is empty", x, 0, 2);
        noDuel("both are", x, 2, 3);
        noDuel("nobody", Checks.cityOf(NOBODY), 0, 1);
        x.steal(1, 2);
        noDuel("his only card is stolen", x, 0, 1);
        CardHolder y = Checks.cityOf("city wear 1;person worth 1 does 0;person worth 1;" + Checks.cards(0, 1));
        y.ask(0, 0, 0);
        noDuel("his only card is worn out", y, 0, 1);
    }

    private static void noDuel(String name, CardHolder x, int person, int other) {
        C.promise(40);
        C.due(name, x.duel(person, other, 0), -2);
        C.due(name, x.duel(person, other, 1), -2);
        C.promise(41);
        C.due(name, x.lay(person, other), -1000);
        C.promise(42);
        C.due(name, x.lays(person, other), -2);
        C.promise(43);
        C.due(name, x.reply(person, other), -2);
    }

    private static void lay() {
        C.promise(41);
        C.due("the most that can be won", Checks.cityOf(worths(999, 998) + Checks.cards(0, 1)).lay(0, 1), 998);
        C.due("the most that can be lost", Checks.cityOf(worths(999, 998) + Checks.cards(0, 1)).lay(1, 0), -998);
        C.due("alike", Checks.cityOf(worths(7, 7) + Checks.cards(0, 1)).lay(0, 1), 0);
        C.due("it wins the other card's worth", Checks.cityOf(worths(9, 2) + Checks.cards(0, 1)).lay(0, 1), 2);
        C.due("it loses its own", Checks.cityOf(worths(9, 2) + Checks.cards(0, 1)).lay(1, 0), -2);
        CardHolder x = Checks.cityOf(worths(10, 20, 30, 40, 10, 20, 30, 40) + Checks.cards(0, 0, 0, 0, 4, 4, 4, 4));
        C.due("sure of no loss", x.lay(0, 4), 0);
        CardHolder y = Checks.cityOf(worths(10, 20, 30, 40, 50) + Checks.cards(0, 0, 0, 0, 1));
        C.due("the least loss", y.lay(0, 1), -10);
        C.due("the other's least", y.lay(1, 0), 10);
    }

    private static void lays() {
        C.promise(42);
        CardHolder x = Checks.cityOf(worths(10, 20, 30, 40, 10, 20, 30, 40) + Checks.cards(0, 0, 0, 0, 4, 4, 4, 4));
        C.due("the one by which it is", x.lays(0, 4), 3);
        C.due("the other's", x.lays(4, 0), 7);
        CardHolder y = Checks.cityOf(worths(40, 20, 30, 10, 50) + Checks.cards(0, 0, 0, 0, 1));
        C.due("the least loss", y.lays(0, 1), 3);
        CardHolder z = Checks.cityOf(worths(1, 1, 9, 8, 9, 5) + Checks.cards(-1, -1, 0, 0, 0, 1));
        C.due("the least of several", z.lays(0, 1), 2);
        CardHolder w = Checks.cityOf(worths(1, 1, 8, 9, 9, 9) + Checks.cards(-1, -1, 0, 0, 0, 1));
        C.due("the least of several that are alike", w.lays(0, 1), 3);
    }

    private static void reply() {
        C.promise(43);
        CardHolder x = Checks.cityOf(worths(10, 20, 30, 40, 10, 20, 30, 40) + Checks.cards(0, 0, 0, 0, 4, 4, 4, 4));
        C.due("the one by which it is no more", x.reply(0, 4), 7);
        CardHolder y = Checks.cityOf(worths(1, 1, 9, 7, 4, 5) + Checks.cards(-1, -1, 0, 1, 1, 1));
        C.due("it wins least of that one", y.reply(0, 1), 4);
        CardHolder z = Checks.cityOf(worths(1, 1, 5, 3, 7, 9) + Checks.cards(-1, -1, 0, 1, 1, 1));
        C.due("whichever beats it: the least", z.reply(0, 1), 4);
        CardHolder w = Checks.cityOf(worths(1, 1, 5, 5, 3, 5) + Checks.cards(-1, -1, 0, 1, 1, 1));
        C.due("alike: the least", w.reply(0, 1), 3);
        CardHolder v = Checks.cityOf(worths(9, 7, 5) + Checks.cards(2, 1, -1));
        C.due("against card 0", v.reply(2, 1), 1);
        C.due("by card 0", v.reply(1, 2), 0);
    }

    /** 0 and 1 (5, 5) hold one another, 2 (9) himself, 3 is free and holds 4 (7). */
    private static final String PEACE = worths(5, 5, 9, 1, 7) + Checks.cards(1, 0, 2, -1, 3);
    /** 0 holds the seven others, each worth 999. */
    private static final String LORD = worths(1, 999, 999, 999, 999, 999, 999, 999) + Checks.cards(-1, 0, 0, 0, 0, 0, 0, 0);

    private static void firm() {
        C.promise(44);
        CardHolder x = Checks.cityOf(PEACE);
        C.due("nobody", x.firm(0), 1);
        C.due("a fair pair", x.firm(3), 1);
        C.due("half of it", x.firm(1), 0);
        C.due("his own card aside", x.firm(4), 1);
        C.due("who wins nothing and loses nothing stays", x.firm(16), 1);
        C.due("who loses", x.firm(8), 0);
        C.due("who loses to another one", x.firm(24), 0);
        C.due("all but him", x.firm(23), 1);
        C.due("all", x.firm(31), 0);
        for (int set : new int[] {-1, 32, 33, 256, MIN, MAX}) {
            C.due("firm(" + set + ")", x.firm(set), -2);
        }
        C.due("none of nobody", Checks.cityOf(NOBODY).firm(0), 1);
        C.due("one of nobody", Checks.cityOf(NOBODY).firm(1), -2);
        C.due("254 of eight", Checks.cityOf(LORD).firm(254), 1);
        C.due("255 of eight", Checks.cityOf(LORD).firm(255), 0);
        C.due("256 of eight", Checks.cityOf(LORD).firm(256), -2);
        x.rate(1, 6);
        C.due("an unfair pair", x.firm(3), 0);
    }

    private static void firms() {
        C.promise(45);
        C.due("firms", Checks.cityOf(PEACE).firms(), 8);
        C.due("of nobody: the empty set", Checks.cityOf(NOBODY).firms(), 1);
        C.due("all sets", Checks.cityOf(Checks.plain(1, 0, 1, 2, 3, 4, 5, 6, 7)).firms(), 256);
        C.due("all without the lord", Checks.cityOf(LORD).firms(), 128);
        C.due("the whole ring or nobody", Checks.cityOf(Checks.plain(1, 7, 0, 1, 2, 3, 4, 5, 6)).firms(), 2);
        CardHolder x = Checks.cityOf(PEACE);
        x.steal(4, 4);
        C.due("as it is now", x.firms(), 16);
    }

    private static void firmest() {
        C.promise(46);
        C.due("firmest", Checks.cityOf(PEACE).firmest(), 23);
        C.due("of nobody", Checks.cityOf(NOBODY).firmest(), 0);
        C.due("all", Checks.cityOf(Checks.plain(1, 0, 1, 2, 3, 4, 5, 6, 7)).firmest(), 255);
        C.due("all without the lord", Checks.cityOf(LORD).firmest(), 254);
        C.due("the whole ring", Checks.cityOf(Checks.plain(1, 7, 0, 1, 2, 3, 4, 5, 6)).firmest(), 255);
        C.due("nobody", Checks.cityOf(worths(5, 6) + Checks.cards(1, 0)).firmest(), 0);
        C.due("person 0 alone", Checks.cityOf(worths(5, 6) + Checks.cards(1, -1)).firmest(), 1);
        C.due("person 1 alone", Checks.cityOf(worths(5, 6) + Checks.cards(-1, 0)).firmest(), 2);
    }

    private static void wins() {
        C.promise(47);
        CardHolder x = Checks.cityOf(PEACE);
        C.due("even", x.wins(3, 0), 0);
        C.due("alone", x.wins(1, 0), -5);
        C.due("with others than his holder", x.wins(29, 0), -5);
        C.due("his own card is neither lost nor won", x.wins(4, 2), 0);
        C.due("nor with all", x.wins(31, 2), 0);
        C.due("the lord loses", x.wins(24, 3), -7);
        C.due("his man wins", x.wins(24, 4), 7);
        C.due("his man alone", x.wins(16, 4), 0);
        C.due("all he holds, in the set or not", Checks.cityOf(LORD).wins(1, 0), -6993);
        C.due("all he holds", Checks.cityOf(LORD).wins(255, 0), -6993);
        C.due("his man", Checks.cityOf(LORD).wins(129, 7), 999);
        CardHolder y = Checks.cityOf(worths(5, 6, 8) + Checks.cards(1, 0, 0));
        C.due("won, less what is lost together", y.wins(7, 0), 5 - 6 - 8);
        C.due("won, less what is lost", y.wins(3, 1), 6 - 5);
        C.due("not in it", x.wins(2, 0), -10000);
        C.due("not in the empty one", x.wins(0, 0), -10000);
        for (int person : new int[] {-1, 5, 8, 31, 32, 33, MIN, MAX}) {
            C.due("wins(31, " + person + ")", x.wins(31, person), -10000);
        }
        for (int set : new int[] {-1, 32, 33, 256, MIN, MAX}) {
            C.due("wins(" + set + ", 0)", x.wins(set, 0), -10000);
        }
        C.due("of nobody", Checks.cityOf(NOBODY).wins(0, 0), -10000);
    }

    private static void leave() {
        C.promise(48);
        CardHolder x = Checks.cityOf(PEACE);
        C.due("nobody", x.leave(0), 0);
        C.due("none of a fair pair", x.leave(3), 0);
        C.due("half of it", x.leave(2), 2);
        C.due("all: the lord", x.leave(31), 8);
        C.due("two", x.leave(30), 10);
        for (int set : new int[] {-1, 32, 33, 256, MIN, MAX}) {
            C.due("leave(" + set + ")", x.leave(set), -2);
        }
        C.due("none of nobody", Checks.cityOf(NOBODY).leave(0), 0);
        C.due("one of nobody", Checks.cityOf(NOBODY).leave(1), -2);
        C.due("the last of eight", Checks.cityOf(worths(9, 1, 1, 1, 1, 1, 1, 1) + Checks.cards(7, -1, -1, -1, -1, -1, -1, -1))
            .leave(255), 128);
    }

    /** 0 is free, holds 1 (50), who holds 2 (30), who holds 3 (30), who holds 4 (40); 5 holds himself, 6 and 7 one another. */
    private static final String RANSOMS = worths(1, 50, 30, 30, 40, 7, 8, 9) + Checks.cards(-1, 0, 1, 2, 3, 5, 7, 6);

    private static void ransom() {
        C.promise(49);
        CardHolder x = Checks.cityOf(RANSOMS);
        C.due("the only card", x.ransom(0, 1), 50);
        C.due("the least between", x.ransom(0, 4), 30);
        C.due("his own card", x.ransom(3, 4), 40);
        C.due("not what is above", x.ransom(3, 0), -1);
        C.due("himself, in no ring", x.ransom(2, 2), -1);
        C.due("himself, free", x.ransom(0, 0), -1);
        C.due("himself", x.ransom(5, 5), 7);
        C.due("around: his own", x.ransom(6, 6), 8);
        C.due("around: the other's", x.ransom(7, 7), 8);
        C.due("not all around", x.ransom(6, 7), 9);
        C.due("another ring", x.ransom(6, 5), -1);
        for (int none : new int[] {-1, 8, 9, 32, MIN, MAX}) {
            C.due("ransom(" + none + ", 1)", x.ransom(none, 1), -2);
            C.due("ransom(0, " + none + ")", x.ransom(0, none), -2);
        }
        C.due("of nobody", Checks.cityOf(NOBODY).ransom(0, 0), -2);
        C.due("the worth of card 0", Checks.cityOf(worths(6, 7) + Checks.cards(1, -1)).ransom(1, 0), 6);
    }

    private static void ransomed() {
        C.promise(50);
        CardHolder x = Checks.cityOf(RANSOMS);
        C.due("the only card", x.ransomed(0, 1), 1);
        C.due("the least of several", x.ransomed(0, 4), 2);
        C.due("his own card", x.ransomed(3, 4), 4);
        C.due("not under", x.ransomed(4, 3), -1);
        C.due("himself, in no ring", x.ransomed(2, 2), -1);
        C.due("himself", x.ransomed(5, 5), 5);
        C.due("around: his own", x.ransomed(6, 6), 6);
        C.due("around: the other's", x.ransomed(7, 7), 6);
        C.due("not all around", x.ransomed(6, 7), 7);
        for (int none : new int[] {-1, 8, 9, 32, MIN, MAX}) {
            C.due("ransomed(" + none + ", 1)", x.ransomed(none, 1), -2);
            C.due("ransomed(0, " + none + ")", x.ransomed(0, none), -2);
        }
        CardHolder y = Checks.cityOf(worths(3, 3, 3, 3) + Checks.cards(3, 2, 0, -1));
        C.due("alike: the least by number, the highest", y.ransomed(3, 1), 0);
        CardHolder z = Checks.cityOf(worths(3, 3, 3, 3) + Checks.cards(1, 2, 3, -1));
        C.due("alike: the least by number, the lowest", z.ransomed(3, 0), 0);
        CardHolder ring = Checks.cityOf(worths(8, 7, 6, 5, 4, 3, 2, 1) + Checks.cards(7, 0, 1, 2, 3, 4, 5, 6));
        C.due("around eight", ring.ransomed(0, 0), 7);
        C.due("seven of eight", ring.ransomed(7, 6), 6);
    }

    /** 0 is free, holds 1, who holds 2; 3 holds himself; 4 does nothing and is free; 5, free, does all. */
    private static final String POWERS = "city wear 1;person worth 1 does 5;person worth 1 does 0 1;person worth 1 does 1 2;"
        + "person worth 1 does 3;person worth 1;person worth 1 does 0 1 2 3 4 5;" + Checks.cards(-1, 0, 1, 3, -1, -1);

    private static void power() {
        C.promise(51);
        CardHolder x = Checks.cityOf(POWERS);
        C.due("like deeds once, not his own", x.power(0), 3);
        C.due("one under him", x.power(1), 2);
        C.due("nobody under him", x.power(2), 0);
        C.due("himself", x.power(3), 1);
        C.due("nobody, though he does all", x.power(5), 0);
        CardHolder y = Checks.cityOf("city wear 1;person worth 1;person worth 1 does 0 1 2 3 4 5;" + Checks.cards(-1, 0));
        C.due("all", y.power(0), 6);
        for (int none : new int[] {-1, 6, 8, 32, MIN, MAX}) {
            C.due("power(" + none + ")", x.power(none), -2);
        }
        x.steal(4, 2);
        C.due("as it is now, the thief", x.power(4), 2);
        C.due("as it is now, the robbed", x.power(1), 0);
    }

    private static void mighty() {
        C.promise(52);
        C.due("the greatest", Checks.cityOf(POWERS).mighty(), 0);
        C.due("there are none", Checks.cityOf(NOBODY).mighty(), -1);
        C.due("none has any: the first", Checks.cityOf(Checks.plain(1, -1, -1)).mighty(), 0);
        C.due("the first of several", Checks.cityOf("city wear 1;person worth 1;person worth 1 does 0;person worth 1 does 0;"
            + Checks.cards(-1, 1, 2)).mighty(), 1);
        C.due("the last", Checks.cityOf("city wear 1;person worth 1;person worth 1 does 0;person worth 1 does 0 1;"
            + Checks.cards(-1, 1, 2)).mighty(), 2);
    }

    private static void covet() {
        C.promise(53);
        CardHolder x = Checks.cityOf(POWERS);
        List<Integer> before = Checks.view(x);
        C.due("a free one's", x.covet(0), 5);
        C.due("a free one's", x.covet(4), 5);
        C.due("his own", x.covet(5), 5);
        C.due("nothing happened", Checks.view(x), before);
        for (int none : new int[] {-1, 6, 8, 32, MIN, MAX}) {
            C.due("covet(" + none + ")", x.covet(none), -2);
        }
        C.due("of nobody", Checks.cityOf(NOBODY).covet(0), -2);
        C.due("nobody does a thing", Checks.cityOf(Checks.plain(1, -1, 0)).covet(0), -1);
        CardHolder y = Checks.cityOf("city wear 1;person worth 1 does 0;person worth 1 does 1;person worth 1 does 2;"
            + Checks.cards(-1, 0, 1));
        C.due("who is above all", y.covet(2), 0);
        C.due("who is above him", y.covet(1), 0);
        C.due("his own", y.covet(0), 0);
        y.steal(0, 2);
        C.due("more of the first", y.covet(1), 0);
        CardHolder z = Checks.cityOf("city wear 1;person worth 1;person worth 1 does 0 1;person worth 1 does 2 3;"
            + "person worth 1 does 4;" + Checks.cards(-1, -1, -1, 0));
        C.due("the first of several", z.covet(0), 1);
        z.steal(1, 3);
        C.due("the most, not the first that is more", z.covet(0), 1);
        z.undo();
        CardHolder w = Checks.cityOf("city wear 1;person worth 1;person worth 1 does 0;person worth 1 does 2 3;"
            + Checks.cards(-1, -1, -1));
        C.due("the most, though behind", w.covet(0), 2);
        CardHolder v = Checks.cityOf("city wear 1;person worth 1;person worth 1 does 0 1;person worth 1 does 1;"
            + "person worth 1 does 0 1;" + Checks.cards(-1, 0, -1, -1));
        C.due("no more than now", v.covet(0), -1);
    }
}
