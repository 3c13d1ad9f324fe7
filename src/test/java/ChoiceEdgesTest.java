import java.util.Arrays;

/** Promises 26 to 39 and Term IV at their edges. */
public final class ChoiceEdgesTest {
    private static final Checks C = new Checks();
    private static final int MIN = Integer.MIN_VALUE;
    private static final int MAX = Integer.MAX_VALUE;
    private static final String NOBODY = "city wear 1;";

    public static void main(String[] args) {
        own();
        first();
        work();
        workOfToday();
        works();
        cover();
        covers();
        buy();
        bought();
        deeds();
        hired();
        suspects();
        rowsOfNoDeeds();
        watch();
        leaves();
        proof();
        C.close("ChoiceEdgesTest", 26, 39);
    }

    private static void own() {
        C.promise(26);
        C.due("nobody", Checks.cityOf(NOBODY).own(), 0);
        C.due("himself", Checks.cityOf(Checks.plain(1, 0)).own(), 0);
        C.due("one who is free has none", Checks.cityOf(Checks.plain(1, -1)).own(), -1);
        C.due("all their own", Checks.cityOf(Checks.plain(1, 0, 1, 2, 3, 4, 5, 6, 7)).own(), 0);
        C.due("one ring of eight", Checks.cityOf(Checks.plain(1, 7, 0, 1, 2, 3, 4, 5, 6)).own(), 7);
        C.due("four pairs", Checks.cityOf(Checks.plain(1, 1, 0, 3, 2, 5, 4, 7, 6)).own(), 4);
        C.due("two rings of four", Checks.cityOf(Checks.plain(1, 2, 3, 4, 5, 6, 7, 0, 1)).own(), 6);
        C.due("some have more than one", Checks.cityOf(Checks.plain(1, 0, 0, 1)).own(), -1);
        C.due("some have none", Checks.cityOf(Checks.plain(1, 1, 0, -1)).own(), -1);
        C.due("all in one hand", Checks.cityOf(Checks.plain(1, 0, 0, 0, 0, 0, 0, 0, 0)).own(), -1);
        CardHolder x = Checks.cityOf("city wear 1;person worth 1 does 0;person worth 1;" + Checks.cards(1, 0));
        C.due("a pair", x.own(), 1);
        x.ask(1, 0, 0);
        C.due("one worn out", x.own(), -1);
        x.undo();
        x.steal(0, 0);
        C.due("one stolen", x.own(), -1);
    }

    private static void first() {
        C.promise(27);
        pair(NOBODY, -1, -1);
        pair(Checks.plain(1, 0), -1, -1);
        pair(Checks.plain(1, 0, 1, 2, 3, 4, 5, 6, 7), -1, -1);
        pair(Checks.plain(1, 7, 0, 1, 2, 3, 4, 5, 6), 0, 1);
        pair(Checks.plain(1, 0, 1, 2, 3, 4, 5, 7, 6), 6, 7);
        pair(Checks.plain(1, 7, 1, 2, 3, 4, 5, 6, 0), 0, 7);
        pair(Checks.plain(1, 0, 3, 4, 1, 2), 1, 3);
        pair(Checks.plain(1, 3, 1, 0, 2), 0, 2);
        pair(Checks.plain(1, 2, 3, 4, 5, 6, 7, 0, 1), 0, 2);
        pair(Checks.plain(1, 0, 0, 1), -1, -1);
        pair(Checks.plain(1, 1, 0, -1), -1, -1);
        CardHolder x = Checks.cityOf(Checks.plain(1, 7, 0, 1, 2, 3, 4, 5, 6));
        for (int left = 6; left >= 0; left--) {
            x.swap(x.first(0), x.first(1));
            C.due("one less", x.own(), left);
        }
        C.due("none is needed", x.first(0), -1);
    }

    private static void pair(String text, int one, int two) {
        CardHolder x = Checks.cityOf(text);
        C.due("card 0 of " + text, x.first(0), one);
        C.due("card 1 of " + text, x.first(1), two);
        for (int what : new int[] {-1, 2, MIN, MAX}) {
            C.due("first(" + what + ") of " + text, x.first(what), -2);
        }
    }

    private static void work() {
        C.promise(28);
        C.due("nobody", Checks.cityOf(NOBODY).work(), 0);
        C.due("no wishes", worksOf("person worth 1;person worth 1 does 0;card 1 to 0;"), 0);
        C.due("a free one does not ask himself", worksOf("person worth 1 does 0 wishes 0;"), 0);
        C.due("he does not do what is wished", worksOf("person worth 1 does 1;person worth 1 wishes 0;card 0 to 1;"), 0);
        C.due("who holds himself does", worksOf("person worth 1 does 0 wishes 0;card 0 to 0;"), 1);
        C.due("asked once", worksOf("person worth 1 wishes 0 1;person worth 1 does 0 1;card 1 to 0;"), 1);
        C.due("each wish once", worksOf("person worth 1 wishes 0;person worth 1 does 0;person worth 1 does 0;"
            + "card 1 to 0;card 2 to 0;"), 1);
        C.due("by his holder alone", worksOf("person worth 1 wishes 0;person worth 1;person worth 1 does 0;"
            + "card 1 to 0;card 2 to 1;"), 0);
        C.due("a wish of each of two", worksOf("person worth 1 wishes 0;person worth 1 does 0 wishes 0;"
            + "person worth 1 does 0;card 1 to 0;card 2 to 1;"), 2);
        C.due("six wishes, seven persons", worksOf("person worth 1 wishes 0 1 2 3 4 5;"
            + "person worth 1 does 0 1 2 3 4 5;".repeat(7) + Checks.cards(-1, 0, 0, 0, 0, 0, 0, 0)), 6);
        C.due("all wish and do", worksOf("person worth 1 does 0 1 2 3 4 5 wishes 0 1 2 3 4 5;".repeat(8)
            + Checks.cards(0, 1, 2, 3, 4, 5, 6, 7)), 8);
        C.due("one gives way to another", worksOf("person worth 1 wishes 0 1 2;person worth 1 does 0 1;"
            + "person worth 1 does 0 2;person worth 1 does 0;" + Checks.cards(-1, 0, 0, 0)), 3);
    }

    private static int worksOf(String lines) {
        return Checks.cityOf("city wear 1;" + lines).work();
    }

    private static void workOfToday() {
        C.promise(28);
        CardHolder x = Checks.cityOf("city wear 2;person worth 1 wishes 0 1;person worth 1 does 0 1;person worth 1 does 0 1;"
            + "card 1 to 0;card 2 to 0;");
        C.due("both", x.work(), 2);
        x.ask(0, 1, 0);
        C.due("one was asked already", x.work(), 1);
        C.due("the wish done today may be done again", x.works(2), 0);
        x.day();
        C.due("both on the next day", x.work(), 2);
        x.ask(0, 1, 0);
        x.day();
        C.due("one is free", x.work(), 1);
        x.steal(2, 2);
        C.due("the thief does not wish it", x.work(), 0);
    }

    private static void works() {
        C.promise(29);
        CardHolder x = Checks.cityOf("city wear 1;person worth 1 wishes 0 1 2;person worth 1 does 0 1;"
            + "person worth 1 does 0 2;person worth 1 does 0;person worth 1 does 5;" + Checks.cards(-1, 0, 0, 0, 0));
        C.due("a free one", x.works(0), -1);
        C.due("the least would cost another's", x.works(1), 1);
        C.due("the least would cost another's", x.works(2), 2);
        C.due("what is left", x.works(3), 0);
        C.due("nobody wishes it", x.works(4), -1);
        for (int none : new int[] {-1, 5, 8, 31, 32, MIN, MAX}) {
            C.due("works(" + none + ")", x.works(none), -2);
        }
        C.due("of nobody", Checks.cityOf(NOBODY).works(0), -2);
        CardHolder y = Checks.cityOf("city wear 1;person worth 1 wishes 4;person worth 1 does 4;person worth 1 does 4;"
            + Checks.cards(-1, 0, 0));
        C.due("the first", y.works(1), 4);
        C.due("none, as only without him", y.works(2), -1);
        CardHolder z = Checks.cityOf("city wear 1;person worth 1 does 3 wishes 3 5;person worth 1 does 3 5;"
            + Checks.cards(0, 0));
        C.due("himself", z.works(0), 3);
        C.due("the other the other", z.works(1), 5);
        z.ask(0, 0, 3);
        C.due("who was asked", z.works(0), -1);
        C.due("the least then", z.works(1), 3);
        CardHolder w = Checks.cityOf("city wear 1;person worth 1 wishes 0 1;person worth 1 does 0;person worth 1 does 0 1;"
            + "person worth 1 does 1;" + Checks.cards(-1, 0, 0, 0));
        C.due("the first", w.works(1), 0);
        C.due("the second", w.works(2), 1);
        C.due("too many", w.works(3), -1);
    }

    private static final int[] NO_DEED_SETS = {-1, 64, 65, 128, MIN, MAX};

    /** 0 holds 1 and 2, 3 holds 4, 5 holds himself. */
    private static final String HANDS = "city wear 1;person worth 3 does 5;person worth 4 does 0;person worth 5 does 1;"
        + "person worth 6;person worth 7 does 0 1 2;person worth 8 does 3;" + Checks.cards(-1, 0, 0, -1, 3, 5);

    private static void cover() {
        C.promise(30);
        CardHolder x = Checks.cityOf(HANDS);
        C.due("none needed", x.cover(0), 0);
        C.due("one hand", x.cover(3), 1);
        C.due("two hands", x.cover(15), 2);
        C.due("in nobody's hand", x.cover(32), -1);
        C.due("nobody does it", x.cover(16), -1);
        C.due("all do not", x.cover(63), -1);
        for (int set : NO_DEED_SETS) {
            C.due("cover(" + set + ")", x.cover(set), -2);
        }
        C.due("of nobody", Checks.cityOf(NOBODY).cover(1), -1);
        C.due("none needed of nobody", Checks.cityOf(NOBODY).cover(0), 0);
        C.due("no such set of nobody", Checks.cityOf(NOBODY).cover(64), -2);
        C.due("all 63", Checks.cityOf(SIX).cover(63), 6);
        C.due("the last of eight", Checks.cityOf(LAST).cover(32), 1);
    }

    /** Each of six holds himself and does a deed; 6 and 7 do nothing. */
    private static final String SIX = "city wear 1;person worth 999 does 5;person worth 999 does 4;person worth 999 does 3;"
        + "person worth 999 does 2;person worth 999 does 1;person worth 999 does 0;person worth 1;person worth 1;"
        + Checks.cards(0, 1, 2, 3, 4, 5, 6, 7);

    /** The last of eight alone does deed 5; each holds himself. */
    private static final String LAST = "city wear 1;" + "person worth 3 does 0;".repeat(7) + "person worth 9 does 5 0;"
        + Checks.cards(0, 1, 2, 3, 4, 5, 6, 7);

    private static void covers() {
        C.promise(31);
        C.due("the last of eight", Checks.cityOf(LAST).covers(32), 128);
        C.due("the last of eight, both deeds", Checks.cityOf(LAST).covers(33), 128);
        CardHolder x = Checks.cityOf(HANDS);
        C.due("none needed", x.covers(0), 0);
        C.due("the least of two sets", x.covers(3), 1);
        C.due("the one hand", x.covers(7), 8);
        C.due("two hands", x.covers(15), 40);
        C.due("two of three", x.covers(11), 33);
        C.due("nobody does it", x.covers(16), -1);
        C.due("in nobody's hand", x.covers(33), -1);
        for (int set : NO_DEED_SETS) {
            C.due("covers(" + set + ")", x.covers(set), -2);
        }
        C.due("of nobody", Checks.cityOf(NOBODY).covers(1), -1);
        C.due("all 63", Checks.cityOf(SIX).covers(63), 63);
        C.due("few rather than least", Checks.cityOf("city wear 1;person worth 1 does 0;person worth 1 does 1;"
            + "person worth 1 does 0 1;" + Checks.cards(0, 1, 2)).covers(3), 4);
        x.steal(3, 5);
        C.due("as it is now", x.covers(15), 8);
    }

    private static void buy() {
        C.promise(32);
        CardHolder x = Checks.cityOf(HANDS);
        C.due("none needed", x.buy(0), 0);
        C.due("the cheaper", x.buy(1), 4);
        C.due("one for two", x.buy(3), 7);
        C.due("free ones, too", x.buy(32), 3);
        C.due("nobody does it", x.buy(16), -1);
        C.due("all do not", x.buy(63), -1);
        for (int set : NO_DEED_SETS) {
            C.due("buy(" + set + ")", x.buy(set), -2);
        }
        C.due("of nobody", Checks.cityOf(NOBODY).buy(1), -1);
        C.due("none needed of nobody", Checks.cityOf(NOBODY).buy(0), 0);
        C.due("all 63", Checks.cityOf(SIX).buy(63), 5994);
        C.due("the last of eight", Checks.cityOf(LAST).buy(32), 9);
        x.rate(4, 10);
        C.due("two for two", x.buy(3), 9);
    }

    private static void bought() {
        C.promise(33);
        CardHolder x = Checks.cityOf(HANDS);
        C.due("none needed", x.bought(0), 0);
        C.due("the cheaper", x.bought(1), 2);
        C.due("one for two", x.bought(3), 16);
        C.due("nobody does it", x.bought(48), -1);
        for (int set : NO_DEED_SETS) {
            C.due("bought(" + set + ")", x.bought(set), -2);
        }
        C.due("of nobody", Checks.cityOf(NOBODY).bought(1), -1);
        C.due("all 63", Checks.cityOf(SIX).bought(63), 63);
        C.due("the last of eight", Checks.cityOf(LAST).bought(32), 128);
        x.rate(4, 9);
        C.due("alike: the least set", x.bought(3), 6);
        CardHolder y = Checks.cityOf("city wear 1;person worth 2 does 0 1;person worth 1 does 0;person worth 1 does 1;");
        C.due("alike: the least set, not the most", y.bought(3), 1);
    }

    private static final int[] NO_SUMS = {-1, 2001, 2002, MIN, MAX};

    private static void deeds() {
        C.promise(34);
        CardHolder x = Checks.cityOf(HANDS);
        C.due("for nothing", x.deeds(0), 0);
        C.due("too little", x.deeds(2), 0);
        C.due("just enough", x.deeds(3), 1);
        C.due("two", x.deeds(7), 3);
        C.due("nearly", x.deeds(9), 3);
        C.due("just", x.deeds(10), 4);
        C.due("the most", x.deeds(18), 5);
        C.due("nearly the most", x.deeds(17), 4);
        C.due("far more", x.deeds(2000), 5);
        for (int n : NO_SUMS) {
            C.due("deeds(" + n + ")", x.deeds(n), -2);
        }
        C.due("of nobody", Checks.cityOf(NOBODY).deeds(2000), 0);
        C.due("the last of eight", Checks.cityOf(LAST).deeds(9), 2);
        C.due("two of 999", Checks.cityOf(SIX).deeds(2000), 2);
        C.due("two of 999", Checks.cityOf(SIX).deeds(1998), 2);
        C.due("one of 999", Checks.cityOf(SIX).deeds(1997), 1);
    }

    private static void hired() {
        C.promise(35);
        CardHolder x = Checks.cityOf(HANDS);
        C.due("for nothing", x.hired(0), 0);
        C.due("too little", x.hired(2), 0);
        C.due("just enough", x.hired(3), 1);
        C.due("the one for three", x.hired(7), 16);
        C.due("just", x.hired(10), 17);
        C.due("the most, none in vain", x.hired(2000), 49);
        for (int n : NO_SUMS) {
            C.due("hired(" + n + ")", x.hired(n), -2);
        }
        C.due("of nobody", Checks.cityOf(NOBODY).hired(2000), 0);
        C.due("the last of eight", Checks.cityOf(LAST).hired(9), 128);
        C.due("the least of several", Checks.cityOf(SIX).hired(2000), 3);
        C.due("the least set, though dearer", Checks.cityOf("city wear 1;person worth 5 does 0 1;person worth 1 does 0 1;")
            .hired(5), 1);
        C.due("the least set within it", Checks.cityOf("city wear 1;person worth 5 does 0 1;person worth 1 does 0 1;")
            .hired(4), 2);
    }

    private static final String WISHES = "city wear 1;person worth 1 wishes 0 1 2;person worth 1 wishes 0 1;"
        + "person worth 1 wishes 0 2 3;person worth 1 wishes 5;person worth 1 wishes 0 1 2 3;person worth 1;";

    private static void suspects() {
        C.promise(36);
        CardHolder x = Checks.cityOf(WISHES);
        suspected(x, 63);
        suspected(x, 23, 0);
        suspected(x, 8, 5);
        suspected(x, 0, 4);
        suspected(x, 16, 3, 1);
        suspected(x, 16, 0, 1, 2, 3);
        suspected(x, 0, 0, 5);
        suspected(x, 19, 1, 1, 0, 1);
        long[] sixty = new long[60];
        Arrays.fill(sixty, 2);
        suspected(x, 21, sixty);
        sixty[59] = 1;
        suspected(x, 17, sixty);
        C.due("of nobody", suspectsOfNobody(), 0);
    }

    private static int suspectsOfNobody() {
        CardHolder x = Checks.cityOf(NOBODY);
        x.row(0, 0, 0);
        return x.suspects(0);
    }

    private static void suspected(CardHolder x, int want, long... numbers) {
        Checks.row(x, 3, 3, numbers);
        C.due("suspects of " + Arrays.toString(numbers), x.suspects(3), want);
    }

    /** No such slot and no city come first, then a slot that has nothing, then a number that is no deed. */
    private static void rowsOfNoDeeds() {
        CardHolder x = Checks.cityOf(WISHES);
        for (int slot : new int[] {-1, 4, 5, MIN, MAX}) {
            ofDeeds("slot " + slot, x, slot, -2);
        }
        for (int slot = 0; slot < 4; slot++) {
            ofDeeds("nothing in " + slot, x, slot, -6);
        }
        for (long number : new long[] {-1, 6, 7, 32, 256, 1L << 32, (1L << 32) + 1, Long.MIN_VALUE, Long.MAX_VALUE}) {
            Checks.row(x, 0, 3, 0, 1, number);
            ofDeeds("number " + number, x, 0, -2);
            Checks.row(x, 0, 3, number, 0);
            ofDeeds("number " + number + " first", x, 0, -2);
        }
        Checks.row(x, 1, 0, 0, 255);
        ofDeeds("255 of one byte", x, 1, -2);
        Checks.row(x, 2, 1, 0, 32768);
        ofDeeds("32768 of two bytes", x, 2, -2);
        CardHolder y = new CardHolder();
        ofDeeds("no city, nothing", y, 0, -2);
        Checks.row(y, 0, 0, 1);
        ofDeeds("no city, a row", y, 0, -2);
    }

    private static void ofDeeds(String name, CardHolder x, int slot, int want) {
        C.promise(36);
        C.due(name, x.suspects(slot), want);
        C.promise(37);
        C.due(name, x.watch(slot), want);
        C.promise(38);
        C.due(name, x.leaves(slot), want);
        C.promise(39);
        C.due(name, x.proof(slot), want);
    }

    private static void watch() {
        C.promise(37);
        CardHolder x = Checks.cityOf(WISHES);
        watched(x, 1);
        watched(x, 3, 0);
        watched(x, 2, 0, 1);
        watched(x, -1, 5);
        watched(x, -1, 4);
        watched(x, -1, 0, 1, 2, 3);
        watched(x, 1, 3);
        CardHolder y = Checks.cityOf("city wear 1;person worth 1 wishes 2;person worth 1 wishes 2;person worth 1 wishes 5 2;");
        watched(y, 5);
        watched(y, 5, 2);
        CardHolder z = Checks.cityOf("city wear 1;person worth 1 wishes 2;person worth 1 wishes 2;");
        watched(z, -1);
        CardHolder w = Checks.cityOf(NOBODY);
        watched(w, -1);
        CardHolder u = Checks.cityOf("city wear 1;person worth 1 wishes 0 1;person worth 1;");
        watched(u, 0);
        CardHolder v = Checks.cityOf("city wear 1;person worth 1;");
        watched(v, -1);
    }

    private static void watched(CardHolder x, int want, long... numbers) {
        Checks.row(x, 3, 2, numbers);
        C.due("watch of " + Arrays.toString(numbers), x.watch(3), want);
    }

    private static void leaves() {
        C.promise(38);
        CardHolder x = Checks.cityOf(WISHES);
        left(x, 3);
        left(x, 2, 0);
        left(x, 2, 0, 1);
        left(x, 1, 5);
        left(x, 0, 4);
        left(x, 1, 0, 1, 2, 3);
        left(x, 1, 3);
        CardHolder y = Checks.cityOf("city wear 1;person worth 1 wishes 2;person worth 1 wishes 2;");
        left(y, 2);
        left(Checks.cityOf(NOBODY), 0);
    }

    private static void left(CardHolder x, int want, long... numbers) {
        Checks.row(x, 3, 1, numbers);
        C.due("leaves of " + Arrays.toString(numbers), x.leaves(3), want);
    }

    private static void proof() {
        C.promise(39);
        CardHolder x = Checks.cityOf(WISHES);
        proved(x, 0);
        proved(x, 1, 0);
        proved(x, 1, 0, 0, 0);
        proved(x, 1, 0, 1);
        proved(x, 2, 1, 2);
        proved(x, 2, 0, 1, 2);
        proved(x, 2, 0, 1, 2, 3);
        proved(x, 1, 0, 4, 5, 1);
        proved(x, 2, 0, 5);
        proved(x, 2, 5, 3);
        proved(x, 1, 4);
        CardHolder y = Checks.cityOf("city wear 1;person worth 1 wishes 0 1 2 3 4 5;");
        proved(y, 0, 0, 1, 2, 3, 4, 5);
        CardHolder z = Checks.cityOf("city wear 1;person worth 1 wishes 1 2 3 4 5;person worth 1 wishes 0 2 3 4 5;"
            + "person worth 1 wishes 0 1 3 4 5;person worth 1 wishes 0 1 2 4 5;person worth 1 wishes 0 1 2 3 5;"
            + "person worth 1 wishes 0 1 2 3 4;");
        proved(z, 6, 5, 4, 3, 2, 1, 0, 0);
        proved(z, 2, 5, 5, 4);
        proved(Checks.cityOf(NOBODY), 0, 3, 4);
    }

    private static void proved(CardHolder x, int want, long... numbers) {
        Checks.row(x, 3, 0, numbers);
        C.due("proof of " + Arrays.toString(numbers), x.proof(3), want);
    }
}
