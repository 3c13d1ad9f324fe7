import java.util.ArrayList;
import java.util.List;

/** Promises 6 to 16 and Term II at their edges. */
public final class PersonEdgesTest {
    private static final Checks C = new Checks();
    private static final int MIN = Integer.MIN_VALUE;
    private static final int MAX = Integer.MAX_VALUE;
    /** 0 is free and holds 1, who holds 2 (forged), who holds 3; 4 holds himself. */
    private static final String TOWN = "city wear 2;person worth 1 does 0 1 2 3 4 5 wishes 0;"
        + "person worth 999 wishes 0 1 2 3 4 5;person worth 10 does 3;person worth 20 does 3 5;"
        + "person worth 30 does 4 wishes 4 3;card 1 to 0;card 2 to 1 forged;card 3 to 2;card 4 to 4;";
    private static final int[] NO_PERSONS = {-1, 5, 8, 31, 32, MIN, MAX};
    private static final int[] NO_DEEDS = {-1, 6, 7, 32, MIN, MAX};
    private static final String NOBODY = "city wear 1;";
    private static final String LINE = Checks.plain(2, -1, 0, 1, 2, 3, 4, 5, 6);
    private static final String RING = Checks.plain(2, 7, 0, 1, 2, 3, 4, 5, 6);
    private static final String SELVES = Checks.plain(2, 0, 1, 2, 3, 4, 5, 6, 7);
    private static final String ALL_FREE = Checks.plain(2, -1, -1, -1, -1, -1, -1, -1, -1);
    /** 0 and 1 hold one another; 0 holds 2, 2 holds 3, 3 holds 4. */
    private static final String TAIL = Checks.plain(2, 1, 0, 0, 2, 3);

    public static void main(String[] args) {
        persons();
        noSuchPersons();
        personsAsTheyAreNow();
        free();
        under();
        time();
        top();
        ring();
        rings();
        chain();
        doer();
        asked();
        can();
        C.close("PersonEdgesTest", 6, 16);
    }

    private static void persons() {
        C.promise(6);
        CardHolder x = Checks.cityOf(TOWN);
        int[][] want = {
            {1, 63, -1, 2, 1, 0, 0, 0}, {999, 0, 0, 4, 63, 0, 0, 2}, {10, 8, 1, 8, 0, 0, 1, 1}, {20, 40, 2, 0, 0, 0, 0, 2},
            {30, 16, 4, 16, 24, 0, 0, 2},
        };
        for (int person = 0; person < want.length; person++) {
            for (int what = 0; what < 8; what++) {
                C.due("person(" + person + ", " + what + ")", x.person(person, what), want[person][what]);
            }
        }
        CardHolder y = Checks.cityOf(Checks.plain(9, 0, 0, 0, 0, 0, 0, 0, 0));
        C.due("a hand of all", y.person(0, 3), 255);
        C.due("an empty hand", y.person(7, 3), 0);
        C.due("the last one's holder", y.person(7, 2), 0);
        C.due("the most askings", y.person(7, 7), 9);
    }

    private static void noSuchPersons() {
        C.promise(6);
        CardHolder x = Checks.cityOf(TOWN);
        for (int person : NO_PERSONS) {
            for (int what = 0; what < 8; what++) {
                C.due("person(" + person + ", " + what + ")", x.person(person, what), -2);
            }
        }
        for (int what : new int[] {-1, 8, 9, MIN, MAX}) {
            C.due("person(0, " + what + ")", x.person(0, what), -2);
        }
        C.due("person(8, 0) of eight", Checks.cityOf(SELVES).person(8, 0), -2);
        C.due("person(7, 0) of eight", Checks.cityOf(SELVES).person(7, 0), 1);
        C.due("person(0, 0) of nobody", Checks.cityOf(NOBODY).person(0, 0), -2);
    }

    private static void personsAsTheyAreNow() {
        C.promise(6);
        CardHolder x = Checks.cityOf(TOWN);
        x.ask(2, 3, 3);
        C.due("asked today", x.person(3, 5), 1);
        C.due("once yet", x.person(3, 7), 1);
        x.day();
        C.due("not today", x.person(3, 5), 0);
        C.due("once yet", x.person(3, 7), 1);
        x.ask(2, 3, 5);
        C.due("worn out: free", x.person(3, 2), -1);
        C.due("worn out: never again", x.person(3, 7), 0);
        C.due("worn out: asked today all the same", x.person(3, 5), 1);
        C.due("worn out: in no hand", x.person(2, 3), 0);
        x.ask(1, 2, 3);
        C.due("a forged one is worn out at once", x.person(2, 2), -1);
        C.due("and forged still", x.person(2, 6), 1);
        C.due("no more askings", x.person(2, 7), 0);
        x.steal(0, 4);
        C.due("the thief's hand", x.person(0, 3), 18);
        C.due("the thief is the holder", x.person(4, 2), 0);
        x.anew();
        x.forge(0, 1);
        C.due("a free one's card, forged", x.person(0, 6), 1);
        C.due("he is free still", x.person(0, 7), 0);
    }

    private static void free() {
        C.promise(7);
        C.due("all", Checks.cityOf(ALL_FREE).free(), 255);
        C.due("none", Checks.cityOf(SELVES).free(), 0);
        C.due("none in a ring", Checks.cityOf(RING).free(), 0);
        C.due("the first", Checks.cityOf(LINE).free(), 1);
        C.due("the last", Checks.cityOf(Checks.plain(1, 7, 0, 1, 2, 3, 4, 5, -1)).free(), 128);
        C.due("of nobody", Checks.cityOf(NOBODY).free(), 0);
        CardHolder x = Checks.cityOf(TOWN);
        x.ask(1, 2, 3);
        C.due("a worn out one, too", x.free(), 5);
        x.undo();
        C.due("and no more", x.free(), 1);
    }

    private static void under() {
        C.promise(8);
        same("a line", LINE, PersonEdgesTest::allUnder, 254, 252, 248, 240, 224, 192, 128, 0);
        same("a ring", RING, PersonEdgesTest::allUnder, 255, 255, 255, 255, 255, 255, 255, 255);
        same("selves", SELVES, PersonEdgesTest::allUnder, 1, 2, 4, 8, 16, 32, 64, 128);
        same("free ones", ALL_FREE, PersonEdgesTest::allUnder, 0, 0, 0, 0, 0, 0, 0, 0);
        same("a tail", TAIL, PersonEdgesTest::allUnder, 31, 31, 24, 16, 0);
        CardHolder x = Checks.cityOf(TOWN);
        for (int person : NO_PERSONS) {
            C.due("under(" + person + ")", x.under(person), -2);
        }
        C.due("of nobody", Checks.cityOf(NOBODY).under(0), -2);
        CardHolder y = Checks.cityOf(Checks.plain(1, 0, 0, 1));
        C.due("he holds himself and another one", y.under(0), 7);
        C.due("not above him", y.under(1), 4);
    }

    private static void time() {
        C.promise(9);
        CardHolder line = Checks.cityOf(LINE);
        C.due("to the end", line.time(0, 7), 7);
        C.due("the next", line.time(6, 7), 1);
        C.due("up", line.time(7, 0), -1);
        C.due("the free one by himself", line.time(0, 0), -1);
        C.due("himself, in no ring", line.time(7, 7), -1);
        CardHolder ring = Checks.cityOf(RING);
        C.due("all around", ring.time(3, 3), 8);
        C.due("nearly around", ring.time(3, 2), 7);
        C.due("the next", ring.time(7, 0), 1);
        for (int card = 0; card < 8; card++) {
            ring.forge(card, 1);
        }
        C.due("all around, all forged", ring.time(0, 0), 16);
        C.due("one forged", ring.time(7, 0), 2);
        CardHolder x = Checks.cityOf(TOWN);
        C.due("one's own forged card takes him no time", x.time(2, 3), 1);
        C.due("over a forged one", x.time(0, 3), 4);
        C.due("to a forged one", x.time(1, 2), 2);
        C.due("himself", x.time(4, 4), 1);
        C.due("beside him", x.time(4, 3), -1);
        CardHolder tail = Checks.cityOf(TAIL);
        C.due("below a ring", tail.time(1, 4), 4);
        C.due("below a ring, himself", tail.time(2, 2), -1);
        C.due("below a ring, up", tail.time(4, 0), -1);
        for (int person : NO_PERSONS) {
            C.due("time(" + person + ", 0)", x.time(person, 0), -2);
            C.due("time(0, " + person + ")", x.time(0, person), -2);
        }
    }

    private static void top() {
        C.promise(10);
        same("a line", LINE, PersonEdgesTest::allTops, 0, 0, 0, 0, 0, 0, 0, 0);
        same("a ring", RING, PersonEdgesTest::allTops, -1, -1, -1, -1, -1, -1, -1, -1);
        same("selves", SELVES, PersonEdgesTest::allTops, -1, -1, -1, -1, -1, -1, -1, -1);
        same("free ones", ALL_FREE, PersonEdgesTest::allTops, 0, 1, 2, 3, 4, 5, 6, 7);
        same("a tail", TAIL, PersonEdgesTest::allTops, -1, -1, -1, -1, -1);
        same("the line the other way", Checks.plain(1, 1, 2, 3, 4, 5, 6, 7, -1), PersonEdgesTest::allTops,
            7, 7, 7, 7, 7, 7, 7, 7);
        CardHolder x = Checks.cityOf(TOWN);
        for (int person : NO_PERSONS) {
            C.due("top(" + person + ")", x.top(person), -2);
        }
        x.ask(1, 2, 3);
        C.due("once the chain is broken", x.top(3), 2);
        C.due("of nobody", Checks.cityOf(NOBODY).top(0), -2);
    }

    private static void ring() {
        C.promise(11);
        same("a line", LINE, PersonEdgesTest::allRings, 0, 0, 0, 0, 0, 0, 0, 0);
        same("a ring", RING, PersonEdgesTest::allRings, 8, 8, 8, 8, 8, 8, 8, 8);
        same("selves", SELVES, PersonEdgesTest::allRings, 1, 1, 1, 1, 1, 1, 1, 1);
        same("free ones", ALL_FREE, PersonEdgesTest::allRings, 0, 0, 0, 0, 0, 0, 0, 0);
        same("a tail", TAIL, PersonEdgesTest::allRings, 2, 2, 0, 0, 0);
        same("himself and another one", Checks.plain(1, 0, 0, 1), PersonEdgesTest::allRings, 1, 0, 0);
        CardHolder x = Checks.cityOf(TOWN);
        for (int person : NO_PERSONS) {
            C.due("ring(" + person + ")", x.ring(person), -2);
        }
        C.due("of nobody", Checks.cityOf(NOBODY).ring(0), -2);
    }

    private static void rings() {
        C.promise(12);
        C.due("a line", Checks.cityOf(LINE).rings(), 0);
        C.due("a ring", Checks.cityOf(RING).rings(), 1);
        C.due("selves", Checks.cityOf(SELVES).rings(), 8);
        C.due("free ones", Checks.cityOf(ALL_FREE).rings(), 0);
        C.due("a tail", Checks.cityOf(TAIL).rings(), 1);
        C.due("pairs", Checks.cityOf(Checks.plain(1, 7, 6, 5, 4, 3, 2, 1, 0)).rings(), 4);
        C.due("two of four", Checks.cityOf(Checks.plain(1, 2, 3, 4, 5, 6, 7, 0, 1)).rings(), 2);
        C.due("of nobody", Checks.cityOf(NOBODY).rings(), 0);
        CardHolder x = Checks.cityOf(TAIL);
        x.give(1, 0, 1, 4);
        C.due("a ring that grew", x.ring(4), 5);
        C.due("is one", x.rings(), 1);
    }

    /** 0 holds 1 (forged) and 2, 2 holds 3; 1 and 3 do 0; 3 holds 4, who does 1; 5 holds himself. */
    private static final String CHAINS = "city wear 1;person worth 1 does 2;person worth 1 does 0;person worth 1;"
        + "person worth 1 does 0;person worth 1 does 1;person worth 1 does 5 4;"
        + "card 1 to 0 forged;card 2 to 0;card 3 to 2;card 4 to 3;card 5 to 5;";

    private static void chain() {
        C.promise(13);
        CardHolder x = Checks.cityOf(CHAINS);
        C.due("of two ways of TIME 2", x.chain(0, 0), 2);
        C.due("farther", x.chain(0, 1), 3);
        C.due("not of his own will", x.chain(0, 2), -1);
        C.due("nobody does it", x.chain(0, 3), -1);
        C.due("who does it is not under him", x.chain(0, 5), -1);
        C.due("himself, in a ring", x.chain(5, 5), 1);
        C.due("nobody is under him", x.chain(4, 1), -1);
        for (int person : new int[] {-1, 6, 8, MIN, MAX}) {
            C.due("chain(" + person + ", 0)", x.chain(person, 0), -2);
        }
        for (int deed : NO_DEEDS) {
            C.due("chain(0, " + deed + ")", x.chain(0, deed), -2);
        }
        CardHolder y = Checks.cityOf("city wear 1;person worth 1 does 0;person worth 1;person worth 1 does 0;"
            + "card 1 to 0 forged;card 0 to 1 forged;card 2 to 1 forged;");
        C.due("himself all around, as long as another way", y.chain(0, 0), 4);
        C.due("the first of both", y.doer(0, 0), 0);
        y.forge(0, 0);
        C.due("himself, sooner", y.chain(0, 0), 3);
    }

    private static void doer() {
        C.promise(14);
        CardHolder x = Checks.cityOf(CHAINS);
        C.due("the first of several", x.doer(0, 0), 1);
        C.due("farther", x.doer(0, 1), 4);
        C.due("never", x.doer(0, 2), -1);
        C.due("never", x.doer(4, 1), -1);
        C.due("himself", x.doer(5, 4), 5);
        for (int person : new int[] {-1, 6, 8, MIN, MAX}) {
            C.due("doer(" + person + ", 0)", x.doer(person, 0), -2);
        }
        for (int deed : NO_DEEDS) {
            C.due("doer(0, " + deed + ")", x.doer(0, deed), -2);
        }
        x.forge(2, 1);
        C.due("the quicker one", x.doer(0, 0), 1);
        x.forge(2, 0);
        C.due("not forged", x.forge(1, 0), 1);
        C.due("TIME 1", x.chain(0, 0), 1);
        CardHolder y = Checks.cityOf("city wear 1;person worth 1;person worth 1 does 0;person worth 1;person worth 1 does 0;"
            + "card 3 to 0 forged;card 2 to 0;card 1 to 2 forged;");
        C.due("the quicker one, though not the first", y.doer(0, 0), 3);
        y.forge(1, 0);
        C.due("alike: the first, though farther down", y.doer(0, 0), 1);
    }

    private static void asked() {
        C.promise(15);
        CardHolder x = Checks.cityOf(CHAINS);
        C.due("the first", x.asked(0, 1, 0), 2);
        C.due("the second", x.asked(0, 1, 1), 3);
        C.due("the last does it", x.asked(0, 1, 2), 4);
        for (int i : new int[] {3, 4, 8, -1, MIN, MAX}) {
            C.due("asked(0, 1, " + i + ")", x.asked(0, 1, i), -1);
            C.due("never: asked(0, 3, " + i + ")", x.asked(0, 3, i), -1);
            C.due("asked(6, 1, " + i + ")", x.asked(6, 1, i), -2);
            C.due("asked(0, 6, " + i + ")", x.asked(0, 6, i), -2);
        }
        C.due("never", x.asked(0, 2, 0), -1);
        C.due("himself", x.asked(5, 5, 0), 5);
        C.due("himself once", x.asked(5, 5, 1), -1);
        for (int person : new int[] {-1, 6, 8, MIN, MAX}) {
            C.due("asked(" + person + ", 0, 0)", x.asked(person, 0, 0), -2);
        }
        for (int deed : NO_DEEDS) {
            C.due("asked(0, " + deed + ", 0)", x.asked(0, deed, 0), -2);
        }
        CardHolder y = Checks.cityOf("city wear 1;" + "person worth 1;".repeat(7) + "person worth 1 does 3;"
            + Checks.cards(1, 2, 3, 4, 5, 6, 7, 0));
        for (int i = 0; i < 8; i++) {
            C.due("all around, " + i, y.asked(7, 3, i), i < 7 ? 6 - i : 7);
        }
        C.due("nine are not asked", y.asked(7, 3, 8), -1);
        CardHolder z = Checks.cityOf("city wear 1;person worth 1 does 4;person worth 1;person worth 1;" + Checks.cards(2, -1, 1));
        C.due("on the way to person 0", z.asked(1, 4, 0), 2);
        C.due("person 0", z.asked(1, 4, 1), 0);
        C.due("nobody behind person 0", z.asked(1, 4, 2), -1);
    }

    private static void can() {
        C.promise(16);
        CardHolder x = Checks.cityOf(TOWN);
        C.due("not by himself", x.can(0), 0);
        C.due("what those under him do", x.can(1), 40);
        C.due("no wishes", x.can(2), 0);
        C.due("himself in a ring; not what nobody under him does", x.can(4), 16);
        x.ask(1, 2, 3);
        C.due("once he is free: no more", x.can(1), 0);
        for (int person : NO_PERSONS) {
            C.due("can(" + person + ")", x.can(person), -2);
        }
        CardHolder y = Checks.cityOf("city wear 1;person worth 1 wishes 0 1 2 3 4 5;person worth 1 does 0 1 2;"
            + "person worth 1 does 3 4 5;card 1 to 0;card 2 to 1;");
        C.due("all", y.can(0), 63);
        y.ask(0, 1, 0);
        C.due("ever, though asked today: he was free then", y.can(0), 0);
        y.undo();
        y.day();
        C.due("ever", y.can(0), 63);
        CardHolder z = Checks.cityOf("city wear 9;person worth 1 wishes 0;person worth 1 does 0;card 1 to 0;");
        z.ask(0, 1, 0);
        C.due("ever: who was asked today, too", z.can(0), 1);
    }

    private interface Row {
        List<Integer> of(CardHolder x);
    }

    private static void same(String name, String text, Row row, int... want) {
        List<Integer> due = new ArrayList<>();
        for (int w : want) {
            due.add(w);
        }
        C.due(name, row.of(Checks.cityOf(text)), due);
    }

    private static List<Integer> allUnder(CardHolder x) {
        List<Integer> got = new ArrayList<>();
        for (int person = 0; person < x.count(0); person++) {
            got.add(x.under(person));
        }
        return got;
    }

    private static List<Integer> allTops(CardHolder x) {
        List<Integer> got = new ArrayList<>();
        for (int person = 0; person < x.count(0); person++) {
            got.add(x.top(person));
        }
        return got;
    }

    private static List<Integer> allRings(CardHolder x) {
        List<Integer> got = new ArrayList<>();
        for (int person = 0; person < x.count(0); person++) {
            got.add(x.ring(person));
        }
        return got;
    }
}
