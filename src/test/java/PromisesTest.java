/** Each promise by answers that were worked out by hand from the document. */
public final class PromisesTest {
    /** 1 holds 0, 0 holds 1 (a ring; 1's card is forged), 0 holds 2, 2 holds 3, 4 is free and holds 5. */
    private static final String MIXED = "city wear 2;\n"
        + "person worth 10 does 0 1 wishes 2 3;\n"
        + "person worth 20 does 2 wishes 0 1;\n"
        + "person worth 5 does 1 3 wishes 4;\n"
        + "person worth 7 does 4 4;\n"
        + "person worth 30 wishes 5 5 0;\n"
        + "person worth 7 does 5 0;\n"
        + "card 0 to 1; card 1 to 0 forged; card 2 to 0; card 3 to 2; card 5 to 4;";
    /** 0 holds 1's, 1 holds 2's, 2 holds 0's; 3 his own. */
    private static final String RING = "city wear 1; person worth 1; person worth 2; person worth 3; person worth 4;"
        + "card 1 to 0; card 2 to 1; card 0 to 2; card 3 to 3;";
    private static final String EMPTY = "city wear 4;";

    private static final Checks C = new Checks();

    public static void main(String[] args) {
        newObject();
        tape();
        texts();
        faults();
        persons();
        bonds();
        chains();
        asking();
        giving();
        swapping();
        stealing();
        takingBack();
        actLimit();
        own();
        work();
        covering();
        buying();
        suspecting();
        duelling();
        laying();
        peace();
        ransoms();
        power();
        judging();
        winds();
        changing();
        counting();
        images();
        slots();
        C.close("PromisesTest");
    }

    private static void newObject() {
        CardHolder x = new CardHolder();
        C.due("NONE", CardHolder.NONE, -1);
        C.due("new fault(0)", x.fault(0), 0);
        C.due("new fault(1)", x.fault(1), -1);
        C.due("new fault(2)", x.fault(2), -1);
        for (int what = 0; what < 8; what++) {
            C.due("new count(" + what + ")", x.count(what), 0);
        }
        C.due("new free", x.free(), -2);
        C.due("new person", x.person(0, 0), -2);
        C.due("new lay", x.lay(0, 1), -1000);
        C.due("new wins", x.wins(0, 0), -10000);
        C.due("new back", x.back(0), -6);
        C.due("new drawn", x.drawn(1, 0), -2);
        C.due("new luck", x.luck(1, 1, 0), -2);
        C.due("new rate", x.rate(0, 5), -2);
        C.due("new forge", x.forge(0, 1), -2);
        C.due("new firmest", x.firmest(), -2);
        C.due("new freed", x.freed(0), -2);
        C.due("new now", x.now(3), -2);
    }

    private static void tape() {
        CardHolder x = new CardHolder();
        for (int i = 1; i <= 45; i++) {
            C.due("feed " + i, x.feed(0x20202020, 0x20202020, 0x20202020, 0x20202020, 0x20202020), 20 * i);
        }
        C.due("feed 46", x.feed(1, 2, 3, 4, 5), -1);
        C.due("full", x.count(6), 900);
        C.due("end above", x.end(901), -1);
        C.due("end below", x.end(-1), -1);
        C.due("still full", x.count(6), 900);
        C.due("end 881", x.end(881), 881);
        C.due("feed to 901", x.feed(1, 2, 3, 4, 5), -1);
        C.due("end 880", x.end(880), 880);
        C.due("feed to 900", x.feed(1, 2, 3, 4, 5), 900);
        C.due("end 0", x.end(0), 0);
        C.due("end 1", x.end(1), -1);
        C.due("highest first", x.feed(0x63697479, 0x20776561, 0x7220333b, 0x80ff0000, -1), 20);
        C.due("end 12", x.end(12), 12);
        C.due("city", x.city(), 1);
        C.due("tape is empty then", x.count(6), 0);
    }

    private static void texts() {
        CardHolder x = Checks.cityOf(MIXED);
        C.due("lines", x.count(5), 12);
        C.due("fault without", x.fault(0), 0);
        C.due("place without", x.fault(1), -1);
        C.due("persons", x.count(0), 6);
        C.due("blanks", Checks.feed(x, " \n \n"), 4);
        C.due("city of blanks", x.city(), 0);
        C.due("there is none then", x.free(), -2);
        C.due("no lines then", x.count(5), 0);
        C.due("no wear then", x.count(1), 0);
        Checks.feed(x, EMPTY);
        C.due("city of nobody", x.city(), 1);
        C.due("nobody free", x.free(), 0);
        Checks.feed(x, "city\nwear009;person worth0999does5wishes000;card0to0forged;");
        C.due("city without blanks", x.city(), 3);
        C.due("wear 9", x.count(1), 9);
        C.due("worth 999", x.person(0, 0), 999);
        C.due("does 5", x.person(0, 1), 32);
        C.due("wishes 0", x.person(0, 4), 1);
        C.due("forged", x.person(0, 6), 1);
        C.due("holds himself", x.person(0, 2), 0);
        C.due("act", x.day(), 0);
        Checks.feed(x, "city wear 3; person worth 5 wishes 1;");
        C.due("in place of another", x.city(), 2);
        C.due("nothing done", x.count(4), 0);
        C.due("day 0", x.now(0), 0);
    }

    private static void faults() {
        fault("city wear 3", 1, 11);
        fault("city wear 3  ", 1, 13);
        fault("city wear 0;", 2, 10);
        fault("city wear 10;", 2, 10);
        fault("city wear 99999999999999999999;", 2, 10);
        fault("person", 1, 0);
        fault(" ;", 1, 1);
        fault("cit wear 3;", 1, 0);
        fault("citywear 3;", 1, 0);
        fault("city 3;", 1, 5);
        fault("city wear wear;", 1, 10);
        fault("city wear 3 4;", 1, 12);
        fault("city wear 3;city wear 3;", 1, 12);
        fault("city wear 3;;", 1, 12);
        fault("city wear 3;\t", 1, 12);
        fault("city wear 3; City", 1, 13);
        fault("city wear 3; \u00ff", 1, 13);
        fault("city wear 3;person worth 0", 2, 25);
        fault("city wear 3;person worth 1000", 2, 25);
        fault("city wear 3;person worth 5", 1, 26);
        fault("city wear 3;person worth 5 does;", 1, 31);
        fault("city wear 3;person worth 5 does 6", 2, 32);
        fault("city wear 3;person worth 5 does 1 6", 2, 34);
        fault("city wear 3;person worth 5 wishes;", 1, 33);
        fault("city wear 3;person worth 5 wishes 0 does 1", 1, 36);
        fault("city wear 3;person worth 5 does 0 does 1", 1, 34);
        fault("city wear 3;person worth 5 card", 1, 27);
        fault("city wear 3;card 0", 2, 17);
        fault("city wear 3;card to", 1, 17);
        fault("city wear 3;person worth 5;card 1", 2, 32);
        fault("city wear 3;person worth 5;card 0 to 1", 2, 37);
        fault("city wear 3;person worth 5;card 0 0", 1, 34);
        fault("city wear 3;person worth 5;card 0 to 0 forge", 1, 39);
        fault("city wear 3;person worth 5;card 0 to 0;card 0 to 0;", 2, 44);
        fault("city wear 3;person worth 5;card 0 to 0 forged forged;", 1, 46);
        String eight = "city wear 3;" + "person worth 5;".repeat(8);
        fault(eight + "person", 3, 132);
        fault(eight + "person who", 3, 132);
        fault(eight + "pers", 1, 132);
        C.due("eight persons", Checks.cityOf(eight).count(0), 8);
    }

    private static void fault(String text, int what, int place) {
        CardHolder x = Checks.cityOf(MIXED);
        x.day();
        Checks.feed(x, text);
        C.due("city of " + text, x.city(), -4);
        C.due("fault of " + text, x.fault(0), what);
        C.due("place of " + text, x.fault(1), place);
        C.due("another what", x.fault(-1), -1);
        C.due("the tape stays", x.count(6), text.length());
        C.due("the city stays", x.count(0), 6);
        C.due("the acts stay", x.count(4), 1);
        x.end(0);
        C.due("empty tape", x.city(), 0);
        C.due("latest fault", x.fault(0), 0);
        C.due("latest place", x.fault(1), -1);
    }

    private static void persons() {
        CardHolder x = Checks.cityOf(MIXED);
        int[][] want = {
            {10, 3, 1, 6, 12, 0, 0, 2}, {20, 4, 0, 1, 3, 0, 1, 1}, {5, 10, 0, 8, 16, 0, 0, 2},
            {7, 16, 2, 0, 0, 0, 0, 2}, {30, 0, -1, 32, 33, 0, 0, 0}, {7, 33, 4, 0, 0, 0, 0, 2},
        };
        for (int person = 0; person < 6; person++) {
            for (int what = 0; what < 8; what++) {
                C.due("person(" + person + ", " + what + ")", x.person(person, what), want[person][what]);
            }
        }
        C.due("person(6, 0)", x.person(6, 0), -2);
        C.due("person(-1, 0)", x.person(-1, 0), -2);
        C.due("person(0, 8)", x.person(0, 8), -2);
        C.due("person(0, -1)", x.person(0, -1), -2);
        C.due("free", x.free(), 16);
        C.due("free of the empty", Checks.cityOf(EMPTY).free(), 0);
    }

    private static void bonds() {
        CardHolder x = Checks.cityOf(MIXED);
        int[] under = {15, 15, 8, 0, 32, 0};
        int[] top = {-1, -1, -1, -1, 4, 4};
        int[] ring = {2, 2, 0, 0, 0, 0};
        for (int person = 0; person < 6; person++) {
            C.due("under(" + person + ")", x.under(person), under[person]);
            C.due("top(" + person + ")", x.top(person), top[person]);
            C.due("ring(" + person + ")", x.ring(person), ring[person]);
        }
        C.due("time(1, 3)", x.time(1, 3), 3);
        C.due("time(0, 1)", x.time(0, 1), 2);
        C.due("time(0, 0)", x.time(0, 0), 3);
        C.due("time(1, 1)", x.time(1, 1), 3);
        C.due("time(2, 2)", x.time(2, 2), -1);
        C.due("time(3, 2)", x.time(3, 2), -1);
        C.due("time(4, 0)", x.time(4, 0), -1);
        C.due("time(4, 6)", x.time(4, 6), -2);
        C.due("time(-1, 0)", x.time(-1, 0), -2);
        C.due("under(6)", x.under(6), -2);
        C.due("top(6)", x.top(6), -2);
        C.due("ring(-1)", x.ring(-1), -2);
        C.due("rings", x.rings(), 1);
        CardHolder y = Checks.cityOf(RING);
        C.due("two rings", y.rings(), 2);
        C.due("ring of one", y.ring(3), 1);
        C.due("ring of three", y.ring(1), 3);
        C.due("under himself", y.under(3), 8);
        C.due("time of himself", y.time(3, 3), 1);
        C.due("time around", y.time(0, 2), 2);
        C.due("no rings", Checks.cityOf(EMPTY).rings(), 0);
    }

    private static void chains() {
        CardHolder x = Checks.cityOf(MIXED);
        C.due("chain(0, 1)", x.chain(0, 1), 1);
        C.due("doer(0, 1)", x.doer(0, 1), 2);
        C.due("asked(0, 1, 0)", x.asked(0, 1, 0), 2);
        C.due("asked(0, 1, 1)", x.asked(0, 1, 1), -1);
        C.due("chain(0, 0): himself by the ring", x.chain(0, 0), 3);
        C.due("doer(0, 0)", x.doer(0, 0), 0);
        C.due("asked(0, 0, 0)", x.asked(0, 0, 0), 1);
        C.due("asked(0, 0, 1)", x.asked(0, 0, 1), 0);
        C.due("asked(0, 0, 2)", x.asked(0, 0, 2), -1);
        C.due("chain(1, 4)", x.chain(1, 4), 3);
        C.due("asked(1, 4, 0)", x.asked(1, 4, 0), 0);
        C.due("asked(1, 4, 1)", x.asked(1, 4, 1), 2);
        C.due("asked(1, 4, 2)", x.asked(1, 4, 2), 3);
        C.due("asked(1, 4, -1)", x.asked(1, 4, -1), -1);
        C.due("chain(0, 2): forged", x.chain(0, 2), 2);
        C.due("chain(2, 1): not of his own will", x.chain(2, 1), -1);
        C.due("doer(2, 1)", x.doer(2, 1), -1);
        C.due("asked(2, 1, 0)", x.asked(2, 1, 0), -1);
        C.due("chain(0, 6)", x.chain(0, 6), -2);
        C.due("doer(6, 0)", x.doer(6, 0), -2);
        C.due("asked(0, -1, 0)", x.asked(0, -1, 0), -2);
        C.due("can(0)", x.can(0), 12);
        C.due("can(1)", x.can(1), 3);
        C.due("can(2)", x.can(2), 16);
        C.due("can(4)", x.can(4), 33);
        C.due("can(3)", x.can(3), 0);
        C.due("can(6)", x.can(6), -2);
        CardHolder y = Checks.cityOf("city wear 1; person worth 1; person worth 1 does 3; person worth 1 does 3;"
            + "card 2 to 0; card 1 to 0;");
        C.due("the first of several", y.doer(0, 3), 1);
    }

    private static void asking() {
        CardHolder x = Checks.cityOf(MIXED);
        C.due("why 1", x.why(0, 3, 4), 1);
        C.due("why 1 ahead of 3", x.why(4, 3, 0), 1);
        C.due("why 3", x.why(0, 2, 0), 3);
        C.due("why 0", x.why(0, 2, 1), 0);
        C.due("why person", x.why(6, 2, 1), -2);
        C.due("why other", x.why(0, -1, 1), -2);
        C.due("why deed", x.why(0, 2, 6), -2);
        C.due("ask none such", x.ask(0, 2, 6), -2);
        C.due("ask in vain", x.ask(0, 2, 0), -5);
        C.due("no act", x.count(4), 0);
        C.due("ask", x.ask(0, 2, 1), 1);
        C.due("asked today", x.person(2, 5), 1);
        C.due("left", x.person(2, 7), 1);
        C.due("why 2", x.why(0, 2, 1), 2);
        C.due("why 2 ahead of 3", x.why(0, 2, 0), 2);
        C.due("ask again", x.ask(0, 2, 3), -5);
        C.due("asked today, all", x.now(1), 4);
        C.due("ask of a forged card", x.ask(0, 1, 2), 0);
        C.due("he is free", x.free(), 18);
        C.due("forged still", x.person(1, 6), 1);
        C.due("no longer his", x.why(0, 1, 2), 1);
        C.due("left of the free", x.person(1, 7), 0);
        C.due("deeds done", x.now(3), 2);
        C.due("day", x.day(), 0);
        C.due("nobody asked", x.now(1), 0);
        C.due("deeds done so far", x.now(3), 2);
        C.due("ask worn out", x.ask(0, 2, 3), 0);
        C.due("free then", x.person(2, 2), -1);
        C.due("his hand stays", x.person(2, 3), 8);
        C.due("day 1", x.now(0), 1);
        C.due("no such what", x.now(4), -2);
        C.due("no such what", x.now(-1), -2);
        CardHolder y = Checks.cityOf("city wear 3; person worth 1 does 2; card 0 to 0;");
        C.due("asks himself", y.ask(0, 0, 2), 2);
    }

    private static void giving() {
        CardHolder x = Checks.cityOf(MIXED);
        C.due("give to a third one", x.give(0, 2, 3, 5), 0);
        C.due("given", x.person(3, 2), 5);
        C.due("worn", x.person(2, 7), 1);
        C.due("asked", x.now(1), 4);
        C.due("no deed", x.now(3), 0);
        C.due("asked today", x.give(0, 2, 3, 0), -5);
        C.due("not in that hand", x.give(1, 0, 3, 1), -5);
        C.due("does not hold him", x.give(2, 0, 1, 2), -5);
        C.due("none such", x.give(6, 0, 1, 2), -2);
        C.due("none such", x.give(0, 6, 1, 2), -2);
        C.due("none such", x.give(0, 2, 6, 2), -2);
        C.due("none such", x.give(0, 2, 3, -1), -2);
        C.due("to the asker", x.give(1, 0, 2, 1), 0);
        C.due("his now", x.person(1, 3), 5);
        C.due("acts", x.count(4), 2);
        C.due("to himself", x.give(4, 5, 5, 5), -5);
        CardHolder y = Checks.cityOf("city wear 1; person worth 1; person worth 2; card 1 to 1; card 0 to 1;");
        C.due("his own card is given, then worn out", y.give(1, 1, 1, 0), 0);
        C.due("free", y.free(), 2);
        CardHolder z = Checks.cityOf("city wear 2; person worth 1; person worth 2; card 1 to 1; card 0 to 1;");
        C.due("his own card is given", z.give(1, 1, 1, 0), 0);
        C.due("to the other", z.person(1, 2), 0);
        C.due("and worn", z.person(1, 7), 1);
        C.due("asked", z.person(1, 5), 1);
        z.day();
        C.due("kept by who has it", z.give(0, 1, 0, 1), 0);
        C.due("worn out", z.free(), 2);
        C.due("still held", z.person(0, 2), 1);
    }

    private static void swapping() {
        CardHolder x = Checks.cityOf(MIXED);
        C.due("swap", x.swap(0, 5), 0);
        C.due("changed", x.person(0, 2), 4);
        C.due("changed", x.person(5, 2), 1);
        C.due("nobody asked", x.now(1), 0);
        C.due("one is free", x.swap(4, 0), -5);
        C.due("one is free", x.swap(0, 4), -5);
        C.due("in one hand", x.swap(1, 2), -5);
        C.due("one twice", x.swap(1, 1), -2);
        C.due("none such", x.swap(1, 6), -2);
        C.due("none such", x.swap(-1, 1), -2);
    }

    private static void stealing() {
        CardHolder x = Checks.cityOf(MIXED);
        C.due("steal", x.steal(4, 2), 0);
        C.due("has it", x.person(4, 3), 36);
        C.due("stolen", x.now(2), 4);
        C.due("stolen already", x.steal(0, 2), -5);
        C.due("free", x.steal(0, 4), -5);
        C.due("in his hand", x.steal(4, 5), -5);
        C.due("none such", x.steal(6, 0), -2);
        C.due("none such", x.steal(0, 6), -2);
        C.due("steals his own", x.steal(3, 3), 2);
        C.due("a stolen one is swapped", x.swap(2, 0), 0);
        C.due("the day ends", x.day(), 0);
        C.due("gone back", x.person(2, 2), 0);
        C.due("gone back", x.person(3, 2), 2);
        C.due("the other one stays", x.person(0, 2), 4);
        C.due("none stolen", x.now(2), 0);
        C.due("stolen again", x.steal(4, 1), 0);
        C.due("asked by the thief", x.ask(4, 1, 2), 0);
        C.due("stolen, not held", x.now(2), 2);
        C.due("day", x.day(), 1);
        C.due("not gone back", x.person(1, 2), -1);
        C.due("none stolen", x.now(2), 0);
    }

    private static void takingBack() {
        CardHolder x = Checks.cityOf(MIXED);
        C.due("none to undo", x.undo(), -5);
        C.due("none", x.anew(), 0);
        x.steal(4, 2);
        x.ask(4, 2, 1);
        x.day();
        x.swap(0, 5);
        C.due("undo the swap", x.undo(), 3);
        C.due("as before", x.person(0, 2), 1);
        C.due("undo the day", x.undo(), 2);
        C.due("day", x.now(0), 0);
        C.due("stolen", x.now(2), 4);
        C.due("asked", x.now(1), 4);
        C.due("undo the asking", x.undo(), 1);
        C.due("asked", x.now(1), 0);
        C.due("left", x.person(2, 7), 2);
        C.due("undone deed", x.now(3), 0);
        x.day();
        C.due("anew", x.anew(), 2);
        C.due("acts", x.count(4), 0);
        C.due("holder", x.person(2, 2), 0);
        C.due("none", x.undo(), -5);
    }

    private static void actLimit() {
        CardHolder x = Checks.cityOf(MIXED);
        for (int i = 0; i < 40; i++) {
            C.due("day " + i, x.day(), i);
        }
        C.due("40 acts", x.count(4), 40);
        C.due("day", x.day(), -5);
        C.due("ask", x.ask(0, 2, 1), -5);
        C.due("why is 0 all the same", x.why(0, 2, 1), 0);
        C.due("give", x.give(0, 2, 3, 0), -5);
        C.due("swap", x.swap(0, 5), -5);
        C.due("steal", x.steal(4, 0), -5);
        C.due("none such first", x.steal(4, 6), -2);
        C.due("undo", x.undo(), 39);
        C.due("ask", x.ask(0, 2, 1), 1);
        C.due("anew", x.anew(), 40);
    }

    private static void own() {
        CardHolder x = Checks.cityOf(RING);
        C.due("own", x.own(), 2);
        C.due("first 0", x.first(0), 0);
        C.due("first 1", x.first(1), 1);
        C.due("first 2", x.first(2), -2);
        C.due("first -1", x.first(-1), -2);
        x.swap(0, 1);
        C.due("one less", x.own(), 1);
        x.swap(x.first(0), x.first(1));
        C.due("done", x.own(), 0);
        C.due("none needed", x.first(0), -1);
        C.due("none needed", x.first(1), -1);
        C.due("more than one", Checks.cityOf(MIXED).own(), -1);
        C.due("can't be", Checks.cityOf(MIXED).first(0), -1);
        C.due("nobody", Checks.cityOf(EMPTY).own(), 0);
        C.due("nobody", Checks.cityOf(EMPTY).first(1), -1);
        CardHolder y = Checks.cityOf("city wear 1;" + "person worth 1;".repeat(5)
            + "card 0 to 0; card 1 to 3; card 3 to 1; card 2 to 4; card 4 to 2;");
        C.due("two pairs", y.own(), 2);
        C.due("the least pair", y.first(0), 1);
        C.due("the least pair", y.first(1), 3);
    }

    private static void work() {
        CardHolder x = Checks.cityOf("city wear 3; person worth 1 wishes 0 1 2; person worth 1 does 0 1;"
            + "person worth 1 does 0; person worth 1 does 0 1; person worth 1 does 2 3 wishes 3;"
            + "card 1 to 0; card 2 to 0; card 3 to 0; card 4 to 0;");
        C.due("work", x.work(), 3);
        C.due("works 0: free", x.works(0), -1);
        C.due("works 1", x.works(1), 0);
        C.due("works 2: only without", x.works(2), -1);
        C.due("works 3", x.works(3), 1);
        C.due("works 4", x.works(4), 2);
        C.due("works 5", x.works(5), -2);
        x.ask(0, 3, 0);
        C.due("one was asked", x.work(), 3);
        C.due("works 1 then", x.works(1), 1);
        C.due("works 2 then", x.works(2), 0);
        C.due("works 3 then", x.works(3), -1);
        C.due("nobody", Checks.cityOf(EMPTY).work(), 0);
        CardHolder y = Checks.cityOf("city wear 1; person worth 1 does 5 wishes 5; person worth 1 does 5 wishes 5;"
            + "card 0 to 0; card 1 to 0;");
        C.due("each wish once", y.work(), 1);
        C.due("himself first", y.works(0), 5);
        C.due("then none", y.works(1), -1);
    }

    private static void covering() {
        CardHolder x = Checks.cityOf(MIXED);
        C.due("cover(0)", x.cover(0), 0);
        C.due("covers(0)", x.covers(0), 0);
        C.due("cover(1)", x.cover(1), 1);
        C.due("covers(1)", x.covers(1), 2);
        C.due("covers(16)", x.covers(16), 4);
        C.due("cover(63)", x.cover(63), 3);
        C.due("covers(63)", x.covers(63), 21);
        C.due("cover(64)", x.cover(64), -2);
        C.due("covers(-1)", x.covers(-1), -2);
        C.due("cover of nobody", Checks.cityOf(EMPTY).cover(1), -1);
        C.due("covers of nobody", Checks.cityOf(EMPTY).covers(1), -1);
        C.due("cover(0) of nobody", Checks.cityOf(EMPTY).cover(0), 0);
    }

    private static void buying() {
        CardHolder x = Checks.cityOf(MIXED);
        C.due("buy(0)", x.buy(0), 0);
        C.due("bought(0)", x.bought(0), 0);
        C.due("buy(1)", x.buy(1), 7);
        C.due("bought(1)", x.bought(1), 32);
        C.due("buy(2)", x.buy(2), 5);
        C.due("bought(3)", x.bought(3), 1);
        C.due("buy(63)", x.buy(63), 39);
        C.due("bought(63)", x.bought(63), 46);
        C.due("buy(64)", x.buy(64), -2);
        C.due("bought(-1)", x.bought(-1), -2);
        C.due("buy of nobody", Checks.cityOf(EMPTY).buy(32), -1);
        C.due("bought of nobody", Checks.cityOf(EMPTY).bought(32), -1);
        C.due("deeds(0)", x.deeds(0), 0);
        C.due("hired(0)", x.hired(0), 0);
        C.due("deeds(4)", x.deeds(4), 0);
        C.due("deeds(7)", x.deeds(7), 2);
        C.due("hired(7)", x.hired(7), 4);
        C.due("deeds(12)", x.deeds(12), 4);
        C.due("hired(12)", x.hired(12), 36);
        C.due("deeds(2000)", x.deeds(2000), 6);
        C.due("hired(2000)", x.hired(2000), 46);
        C.due("deeds(38)", x.deeds(38), 5);
        C.due("deeds(2001)", x.deeds(2001), -2);
        C.due("hired(-1)", x.hired(-1), -2);
    }

    private static void suspecting() {
        CardHolder x = Checks.cityOf("city wear 1; person worth 1 wishes 0 1 2; person worth 1 wishes 0 1;"
            + "person worth 1 wishes 0 2 3; person worth 1 wishes 4; person worth 1 wishes 0 1 2 3;");
        C.due("nothing", x.suspects(0), -6);
        C.due("nothing", x.watch(0), -6);
        C.due("nothing", x.leaves(0), -6);
        C.due("nothing", x.proof(0), -6);
        C.due("no slot", x.suspects(4), -2);
        C.due("no slot", x.watch(-1), -2);
        C.due("no slot", x.leaves(-1), -2);
        C.due("no slot", x.proof(4), -2);
        Checks.row(x, 0, 0, 0, 0, 256);
        C.due("suspects", x.suspects(0), 23);
        C.due("watch", x.watch(0), 3);
        C.due("leaves", x.leaves(0), 2);
        C.due("proof", x.proof(0), 1);
        Checks.row(x, 1, 3, 0, 1, 2);
        C.due("suspects", x.suspects(1), 17);
        C.due("watch", x.watch(1), 3);
        C.due("leaves", x.leaves(1), 1);
        C.due("proof", x.proof(1), 2);
        Checks.row(x, 2, 1);
        C.due("an empty row", x.suspects(2), 31);
        C.due("watch", x.watch(2), 1);
        C.due("leaves", x.leaves(2), 3);
        C.due("proof", x.proof(2), 0);
        Checks.row(x, 2, 1, 5);
        C.due("nobody", x.suspects(2), 0);
        C.due("no watch", x.watch(2), -1);
        C.due("leaves", x.leaves(2), 0);
        C.due("proof", x.proof(2), 1);
        Checks.row(x, 3, 2, 0, 6);
        C.due("no deed", x.suspects(3), -2);
        C.due("no deed", x.watch(3), -2);
        C.due("no deed", x.leaves(3), -2);
        C.due("no deed", x.proof(3), -2);
        Checks.row(x, 3, 3, (1L << 32) + 1);
        C.due("a long one is no deed", x.suspects(3), -2);
        Checks.row(x, 3, 0, 255);
        C.due("below 0 is no deed", x.suspects(3), -2);
    }

    /** 0 holds 2, 3, 4 (5, 9, 9), 1 holds 0, 5 (7, 9). */
    private static final String DUEL = "city wear 1; person worth 7; person worth 1; person worth 5; person worth 9;"
        + "person worth 9; person worth 9; card 2 to 0; card 3 to 0; card 4 to 0; card 0 to 1; card 5 to 1;";

    private static void duelling() {
        CardHolder x = Checks.cityOf(DUEL);
        C.due("2 of 6, above", x.duel(0, 1, 0), 1);
        C.due("2 of 6, below", x.duel(0, 1, 1), 3);
        C.due("2 of 6 back, above", x.duel(1, 0, 0), 1);
        C.due("2 of 6 back, below", x.duel(1, 0, 1), 3);
        C.due("what 2", x.duel(0, 1, 2), -2);
        C.due("what -1", x.duel(0, 1, -1), -2);
        C.due("one twice", x.duel(0, 0, 0), -2);
        C.due("empty", x.duel(0, 2, 0), -2);
        C.due("empty", x.duel(2, 0, 1), -2);
        C.due("none such", x.duel(0, 6, 0), -2);
        CardHolder y = Checks.cityOf("city wear 1; person worth 3; person worth 3; card 0 to 1; card 1 to 0;");
        C.due("0 / 1", y.duel(0, 1, 0), 0);
        C.due("0 / 1", y.duel(0, 1, 1), 1);
    }

    private static void laying() {
        CardHolder x = Checks.cityOf(DUEL);
        C.due("lay", x.lay(0, 1), 0);
        C.due("lays", x.lays(0, 1), 3);
        C.due("reply", x.reply(0, 1), 5);
        C.due("lay back", x.lay(1, 0), 0);
        C.due("lays back", x.lays(1, 0), 5);
        C.due("reply back", x.reply(1, 0), 3);
        C.due("one twice", x.lay(0, 0), -1000);
        C.due("one twice", x.lays(0, 0), -2);
        C.due("empty", x.reply(0, 3), -2);
        C.due("empty", x.lay(3, 0), -1000);
        C.due("none such", x.lays(6, 0), -2);
        CardHolder y = Checks.cityOf("city wear 1; person worth 9; person worth 4; person worth 6; person worth 8;"
            + "card 0 to 0; card 1 to 1; card 2 to 1; card 3 to 0;");
        C.due("wins at least", y.lay(0, 1), 4);
        C.due("the least card", y.lays(0, 1), 0);
        C.due("the cheapest", y.reply(0, 1), 1);
        C.due("loses", y.lay(1, 0), -4);
        C.due("by the cheaper", y.lays(1, 0), 1);
        C.due("the least", y.reply(1, 0), 0);
    }

    private static void peace() {
        CardHolder x = Checks.cityOf(MIXED);
        C.due("wins(3, 0)", x.wins(3, 0), 10 - 25);
        C.due("wins(3, 1)", x.wins(3, 1), 20 - 10);
        C.due("wins(4, 2)", x.wins(4, 2), -7);
        C.due("wins(13, 3)", x.wins(13, 3), 7);
        C.due("wins(8, 3)", x.wins(8, 3), 0);
        C.due("not in it", x.wins(8, 2), -10000);
        C.due("no person", x.wins(63, 6), -10000);
        C.due("no set", x.wins(64, 0), -10000);
        C.due("leave(63)", x.leave(63), 1 + 4 + 16);
        C.due("firm(63)", x.firm(63), 0);
        C.due("firm(8)", x.firm(8), 1);
        C.due("firm(40)", x.firm(40), 1);
        C.due("leave(40)", x.leave(40), 0);
        C.due("firm(0)", x.firm(0), 1);
        C.due("leave(0)", x.leave(0), 0);
        C.due("firm(64)", x.firm(64), -2);
        C.due("leave(-1)", x.leave(-1), -2);
        C.due("firms", x.firms(), 4);
        C.due("firmest", x.firmest(), 40);
        C.due("firms of nobody", Checks.cityOf(EMPTY).firms(), 1);
        C.due("firmest of nobody", Checks.cityOf(EMPTY).firmest(), 0);
        C.due("firm(0) of nobody", Checks.cityOf(EMPTY).firm(0), 1);
        C.due("firm(1) of nobody", Checks.cityOf(EMPTY).firm(1), -2);
        CardHolder y = Checks.cityOf("city wear 1; person worth 5; person worth 5; person worth 9;"
            + "card 0 to 1; card 1 to 0; card 2 to 2;");
        C.due("a fair pair", y.firm(3), 1);
        C.due("his own aside", y.wins(7, 2), 0);
        C.due("firms", y.firms(), 4);
        C.due("firmest", y.firmest(), 7);
    }

    private static void ransoms() {
        CardHolder x = Checks.cityOf(MIXED);
        C.due("ransom(1, 3)", x.ransom(1, 3), 5);
        C.due("ransomed(1, 3)", x.ransomed(1, 3), 2);
        C.due("ransom(0, 0)", x.ransom(0, 0), 10);
        C.due("ransomed(0, 0)", x.ransomed(0, 0), 0);
        C.due("ransomed(0, 1)", x.ransomed(0, 1), 1);
        C.due("ransom(0, 1)", x.ransom(0, 1), 20);
        C.due("not under", x.ransom(3, 0), -1);
        C.due("not under", x.ransomed(2, 2), -1);
        C.due("none such", x.ransom(0, 6), -2);
        C.due("none such", x.ransomed(-1, 0), -2);
        CardHolder y = Checks.cityOf("city wear 1; person worth 3; person worth 3; person worth 3;"
            + "card 2 to 1; card 1 to 0;");
        C.due("the least of several", y.ransomed(0, 2), 1);
    }

    private static void power() {
        CardHolder x = Checks.cityOf(MIXED);
        int[] power = {5, 5, 1, 0, 2, 0};
        int[] covet = {4, 4, 0, 0, 0, 0};
        for (int person = 0; person < 6; person++) {
            C.due("power(" + person + ")", x.power(person), power[person]);
            C.due("covet(" + person + ")", x.covet(person), covet[person]);
        }
        C.due("power(6)", x.power(6), -2);
        C.due("covet(-1)", x.covet(-1), -2);
        C.due("mighty", x.mighty(), 0);
        C.due("nobody is", Checks.cityOf(EMPTY).mighty(), -1);
        CardHolder y = Checks.cityOf(RING);
        C.due("all alike", y.mighty(), 0);
        C.due("no more", y.covet(0), -1);
        C.due("coveting changes nothing", x.person(0, 2), 1);
        CardHolder z = Checks.cityOf("city wear 1; person worth 1 does 3; person worth 1;");
        C.due("his own", z.covet(0), 0);
        C.due("a free one's", z.covet(1), 0);
        C.due("first of the mighty", z.mighty(), 0);
        CardHolder w = Checks.cityOf("city wear 1; person worth 1; person worth 1; person worth 1 does 3 4;"
            + "card 2 to 1;");
        C.due("the greatest power", w.mighty(), 1);
    }

    private static void judging() {
        CardHolder x = Checks.cityOf(MIXED);
        C.due("nothing", x.judge(0), -6);
        C.due("nothing", x.freed(0), -6);
        C.due("no slot", x.judge(4), -2);
        C.due("no slot", x.freed(-1), -2);
        x.row(0, 0, 0);
        C.due("empty", x.judge(0), 0);
        C.due("freed", x.freed(0), 16);
        Checks.row(x, 0, 0, 0, 2, 1, 0, 1, 2, -1, -1, -1, 0, 2, 3, 0, 2, 1);
        C.due("the last can't be", x.judge(0), 4);
        C.due("freed", x.freed(0), 16 + 2 + 4);
        Checks.row(x, 1, 1, 0, 2, 1, 0, 2, 3);
        C.due("asked today", x.judge(1), 1);
        C.due("freed", x.freed(1), 16);
        Checks.row(x, 1, 2, -1, -1, -1, -1, -1, -1);
        C.due("days", x.judge(1), 2);
        x.ask(0, 2, 1);
        C.due("from the start on", x.judge(0), 4);
        C.due("a trial alone", x.count(4), 1);
        C.due("a trial alone", x.person(1, 2), 0);
        Checks.row(x, 2, 3, 0, 2, 1, 0);
        C.due("not three each", x.judge(2), -2);
        C.due("not three each", x.freed(2), -2);
        Checks.row(x, 2, 3, 5, 2, 1, 6, 0, 0);
        C.due("a number is none such", x.judge(2), -2);
        C.due("a number is none such", x.freed(2), -2);
        Checks.row(x, 2, 3, 0, 2, 6);
        C.due("no deed", x.judge(2), -2);
        Checks.row(x, 2, 3, -1, -1, 0);
        C.due("NONE else", x.judge(2), -2);
        Checks.row(x, 2, 3, 1L << 32, 2, 1);
        C.due("a long one", x.judge(2), -2);
        Checks.row(x, 2, 0, 255, 255, 255, 256, 2, 257);
        C.due("cut to its width", x.judge(2), 2);
        C.due("no city", new CardHolder().judge(0), -2);
    }

    /** For three persons: the draws of 3 and of 2, from 5. */
    private static void winds() {
        CardHolder x = Checks.cityOf("city wear 1; person worth 1; person worth 1; person worth 1;");
        long one = (1103515245L * 5 + 12345) % 2147483648L;
        long two = (1103515245L * one + 12345) % 2147483648L;
        int[] places = {0, 1, 2};
        int third = (int) (one / 65536 % 3);
        places[2] = third;
        places[third] = 2;
        int second = (int) (two / 65536 % 2);
        int card = places[1];
        places[1] = places[second];
        places[second] = card;
        for (int place = 0; place < 3; place++) {
            C.due("drawn(5, " + places[place] + ")", x.drawn(5, places[place]), place);
        }
        for (int person = 0; person < 3; person++) {
            int lucky = 0;
            for (int i = 0; i < 20; i++) {
                lucky += x.drawn(7 + i, person) == person ? 1 : 0;
            }
            C.due("luck(7, 20, " + person + ")", x.luck(7, 20, person), lucky);
        }
        C.due("luck of one", x.luck(5, 1, 0), x.drawn(5, 0) == 0 ? 1 : 0);
        int fixed = x.luck(5, 1, 0) + x.luck(5, 1, 1) + x.luck(5, 1, 2);
        C.due("winds of one", x.winds(5, 1), fixed == 3 ? 3 : fixed == 1 ? 2 : 1);
        C.due("winds of two", x.winds(5, 2), x.winds(5, 1) + x.winds(6, 1));
        C.due("seed -1", x.drawn(-1, 0), -2);
        C.due("seed above", x.drawn(2000000001, 0), -2);
        C.due("highest seed", x.drawn(2000000000, 0) >= 0 ? 1 : 0, 1);
        C.due("no card", x.drawn(5, 3), -2);
        C.due("n 0", x.luck(5, 0, 0), -2);
        C.due("n 21", x.luck(5, 21, 0), -2);
        C.due("no person", x.luck(5, 1, 3), -2);
        C.due("no seed", x.luck(-5, 1, 0), -2);
        C.due("n 0", x.winds(5, 0), -2);
        C.due("n 21", x.winds(5, 21), -2);
        C.due("no seed", x.winds(-1, 1), -2);
        C.due("nobody", Checks.cityOf(EMPTY).winds(5, 3), 0);
        C.due("one alone", Checks.cityOf("city wear 1; person worth 1;").winds(5, 3), 3);
        C.due("the cards stay", x.person(0, 2), -1);
    }

    private static void changing() {
        CardHolder x = Checks.cityOf(MIXED);
        C.due("rate", x.rate(4, 999), 30);
        C.due("rated", x.person(4, 0), 999);
        C.due("n 0", x.rate(4, 0), -2);
        C.due("n 1000", x.rate(4, 1000), -2);
        C.due("no person", x.rate(6, 5), -2);
        C.due("forge", x.forge(2, 1), 0);
        C.due("forged", x.person(2, 6), 1);
        C.due("asked once", x.person(2, 7), 1);
        C.due("forge again", x.forge(2, 1), 1);
        C.due("no longer", x.forge(1, 0), 1);
        C.due("asked twice", x.person(1, 7), 2);
        C.due("a free one's", x.forge(4, 1), 0);
        C.due("forged ones", x.count(3), 2);
        C.due("is 2", x.forge(2, 2), -2);
        C.due("is -1", x.forge(2, -1), -2);
        C.due("no card", x.forge(6, 1), -2);
        x.day();
        C.due("there were acts", x.rate(4, 5), -5);
        C.due("there were acts", x.forge(2, 0), -5);
        C.due("none such first", x.rate(6, 5), -2);
        C.due("none such first", x.forge(2, 2), -2);
        x.anew();
        C.due("from now on", x.person(4, 0), 999);
        C.due("taken back", x.rate(4, 1), 999);
    }

    private static void counting() {
        CardHolder x = Checks.cityOf(MIXED);
        int[] want = {6, 2, 5, 1, 0, 12, 0, 0};
        for (int what = 0; what < 8; what++) {
            C.due("count(" + what + ")", x.count(what), want[what]);
        }
        C.due("count(8)", x.count(8), -1);
        C.due("count(-1)", x.count(-1), -1);
        x.ask(0, 1, 2);
        C.due("held", x.count(2), 4);
        C.due("forged", x.count(3), 1);
        C.due("acts", x.count(4), 1);
        x.feed(1, 2, 3, 4, 5);
        C.due("bytes", x.count(6), 20);
        x.row(3, 0, 0);
        C.due("slots", x.count(7), 1);
    }

    private static void images() {
        CardHolder x = Checks.cityOf(MIXED);
        C.due("nothing", x.back(2), -6);
        C.due("no such", x.back(3), -2);
        C.due("no such", x.image(3), -2);
        C.due("no such", x.image(-1), -2);
        C.due("no such", x.back(-1), -2);
        x.rate(0, 77);
        x.steal(4, 0);
        x.day();
        C.due("image", x.image(0), 0);
        x.anew();
        x.rate(0, 1);
        x.feed(1, 2, 3, 4, 5);
        x.row(0, 0, 1);
        Checks.feed(x, EMPTY);
        x.city();
        C.due("the fault", x.fault(0), 1);
        x.end(0);
        Checks.feed(x, EMPTY);
        C.due("another city", x.city(), 1);
        C.due("back", x.back(0), 0);
        C.due("persons", x.count(0), 6);
        C.due("lines", x.count(5), 12);
        C.due("rated", x.person(0, 0), 77);
        C.due("acts", x.count(4), 2);
        C.due("day", x.now(0), 1);
        C.due("the rows stay", x.count(7), 1);
        C.due("undo", x.undo(), 1);
        C.due("stolen", x.now(2), 1);
        C.due("back again", x.back(0), 0);
        C.due("acts", x.count(4), 2);
        CardHolder y = new CardHolder();
        C.due("an image of no city", y.image(1), 0);
        Checks.feed(y, EMPTY);
        y.city();
        C.due("back to none", y.back(1), 0);
        C.due("none", y.free(), -2);
    }

    private static void slots() {
        CardHolder x = new CardHolder();
        C.due("no slot", x.row(4, 0, 1), -2);
        C.due("no slot", x.row(-1, 0, 1), -2);
        C.due("no width", x.row(0, 4, 1), -2);
        C.due("no width", x.row(0, -1, -1), -2);
        C.due("61", x.row(0, 0, 61), -2);
        C.due("-1", x.row(0, 0, -1), -3);
        C.due("none yet", x.count(7), 0);
        C.due("60", x.row(0, 0, 60), 0);
        C.due("stays", x.row(0, 0, -1), -3);
        C.due("write the last", x.write(0, 59, 1), 0);
        C.due("write behind", x.write(0, 60, 1), -7);
        C.due("write ahead", x.write(0, -1, 1), -7);
        C.due("no slot", x.write(4, 0, 1), -2);
        C.due("nothing", x.write(1, 0, 1), -6);
        x.row(1, 1, 5);
        x.row(2, 0, 3);
        C.due("no slot", x.paste(4, 0, 0, 0, 1), -2);
        C.due("no slot", x.paste(0, 0, -1, 0, 1), -2);
        C.due("nothing", x.paste(0, 0, 3, 0, 1), -6);
        C.due("nothing", x.paste(3, 0, 0, 0, 1), -6);
        C.due("widths", x.paste(0, -1, 1, 0, 1), -8);
        C.due("beyond", x.paste(0, 58, 2, 0, 3), -7);
        C.due("beyond", x.paste(0, 0, 2, 1, 3), -7);
        C.due("far beyond", x.paste(0, 1, 2, 0, 2147483647), -7);
        C.due("far beyond", x.paste(0, 2147483647, 2, 0, 2), -7);
        C.due("below", x.paste(0, -1, 2, 0, 1), -7);
        C.due("below", x.paste(0, 0, 2, -1, 1), -7);
        C.due("below", x.paste(0, 0, 2, 0, -1), -7);
        C.due("none at all", x.paste(0, 60, 2, 3, 0), 0);
        pasted();
    }

    /** What stands in a row shows by what is suspected. */
    private static void pasted() {
        CardHolder x = Checks.cityOf("city wear 1; person worth 1 wishes 0 1; person worth 1 wishes 0 2;"
            + "person worth 1 wishes 0 1 2 3;");
        Checks.row(x, 0, 0, 1, 2, 3);
        Checks.row(x, 1, 0, 0, 0);
        C.due("paste", x.paste(0, 1, 1, 1, 1), 0);
        C.due("pasted", x.suspects(1), 6);
        C.due("onto itself", x.paste(0, 0, 0, 1, 2), 0);
        C.due("as they were", x.proof(0), 2);
        Checks.row(x, 2, 0, 1, 2, 1);
        C.due("1 1 2 alike", x.suspects(0), x.suspects(2));
        x.row(0, 0, 3);
        C.due("all 0", x.suspects(0), 7);
        C.due("all 0", x.proof(0), 0);
        Checks.row(x, 3, 1, 65536 + 1);
        C.due("cut", x.suspects(3), 5);
    }
}
