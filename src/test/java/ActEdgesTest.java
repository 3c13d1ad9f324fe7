import java.util.List;

/** Promises 17 to 25 and Term III at their edges. */
public final class ActEdgesTest {
    private static final Checks C = new Checks();
    private static final int MIN = Integer.MIN_VALUE;
    private static final int MAX = Integer.MAX_VALUE;
    /** 0 is free and holds 1 and 2; 1 holds 3; 4 holds himself. */
    private static final String TOWN = "city wear 3;person worth 1 does 0;person worth 2 does 1 2;person worth 3;"
        + "person worth 4 does 3;person worth 5 does 5;card 1 to 0;card 2 to 0;card 3 to 1;card 4 to 4;";
    private static final int[] NO_PERSONS = {-1, 5, 8, 31, 32, MIN, MAX};
    private static final int[] NO_DEEDS = {-1, 6, 7, 31, 32, 33, MIN, MAX};

    public static void main(String[] args) {
        why();
        ask();
        refusedAskings();
        wearingOut();
        give();
        refusedGifts();
        givenFirst();
        swap();
        refusedSwaps();
        steal();
        refusedThefts();
        stolenGoBack();
        day();
        fortyActs();
        undo();
        anew();
        now();
        C.close("ActEdgesTest", 17, 25);
    }

    private static void why() {
        C.promise(17);
        CardHolder x = Checks.cityOf(TOWN);
        C.due("he can", x.why(0, 1, 1), 0);
        C.due("he can ask himself", x.why(4, 4, 5), 0);
        C.due("not his deed", x.why(0, 1, 0), 3);
        C.due("not his card", x.why(0, 3, 3), 1);
        C.due("not his card, ahead of not his deed", x.why(0, 3, 0), 1);
        C.due("a free one", x.why(1, 0, 0), 1);
        C.due("himself, free", x.why(0, 0, 0), 1);
        x.ask(0, 1, 1);
        C.due("asked today", x.why(0, 1, 1), 2);
        C.due("asked today, ahead of not his deed", x.why(0, 1, 0), 2);
        C.due("not his card, ahead of asked today", x.why(2, 1, 1), 1);
        C.due("the other one was not asked", x.why(0, 2, 1), 3);
        x.day();
        C.due("the next day", x.why(0, 1, 1), 0);
        for (int none : NO_PERSONS) {
            C.due("why(" + none + ", 1, 1)", x.why(none, 1, 1), -2);
            C.due("why(0, " + none + ", 1)", x.why(0, none, 1), -2);
        }
        for (int none : NO_DEEDS) {
            C.due("why(0, 1, " + none + ")", x.why(0, 1, none), -2);
        }
    }

    private static void ask() {
        C.promise(18);
        CardHolder x = Checks.cityOf(TOWN);
        C.due("twice yet", x.ask(0, 1, 1), 2);
        C.due("another one on the same day", x.ask(1, 3, 3), 2);
        C.due("himself", x.ask(4, 4, 5), 2);
        C.due("three were asked", x.now(1), 26);
        C.due("three deeds", x.now(3), 3);
        C.due("three acts", x.count(4), 3);
        C.due("the asker was not", x.person(0, 5), 0);
    }

    private static void refusedAskings() {
        C.promise(18);
        CardHolder x = Checks.cityOf(TOWN);
        x.ask(0, 1, 1);
        List<Integer> before = Checks.view(x);
        C.due("asked today", x.ask(0, 1, 2), -5);
        C.due("not his card", x.ask(0, 3, 3), -5);
        C.due("not his deed", x.ask(0, 2, 3), -5);
        C.due("free", x.ask(1, 0, 0), -5);
        for (int none : NO_PERSONS) {
            C.due("ask(" + none + ", 1, 1)", x.ask(none, 1, 1), -2);
            C.due("ask(0, " + none + ", 1)", x.ask(0, none, 1), -2);
        }
        for (int none : NO_DEEDS) {
            C.due("ask(0, 2, " + none + ")", x.ask(0, 2, none), -2);
        }
        C.due("nothing happened", Checks.view(x), before);
    }

    private static void wearingOut() {
        C.promise(18);
        CardHolder x = Checks.cityOf("city wear 9;person worth 1;person worth 1 does 4;person worth 1 does 4;"
            + "person worth 1;card 1 to 0;card 2 to 0 forged;card 3 to 1;");
        C.due("a forged one once", x.ask(0, 2, 4), 0);
        C.due("he is free from then on", x.free(), 5);
        for (int left = 8; left > 0; left--) {
            C.due("still " + left, x.ask(0, 1, 4), left);
            C.due("not free", x.person(1, 2), 0);
            x.day();
        }
        C.due("the ninth time", x.ask(0, 1, 4), 0);
        C.due("it can't be read", x.person(1, 2), -1);
        C.due("free", x.free(), 7);
        x.day();
        C.due("free from then on", x.free(), 7);
        C.due("nobody holds him", x.ask(0, 1, 4), -5);
        C.due("why", x.why(0, 1, 4), 1);
        C.due("he holds his hand still", x.person(3, 2), 1);
        CardHolder y = Checks.cityOf("city wear 1;person worth 1 does 0;card 0 to 0;");
        C.due("wear 1", y.ask(0, 0, 0), 0);
        C.due("free of himself", y.ring(0), 0);
        CardHolder z = Checks.cityOf("city wear 2;person worth 1;person worth 1 does 0;card 1 to 0;");
        z.ask(0, 1, 0);
        z.day();
        z.steal(1, 1);
        C.due("the worn card wears in other hands", z.ask(1, 1, 0), 0);
    }

    private static void give() {
        C.promise(19);
        CardHolder x = Checks.cityOf(TOWN);
        C.due("give", x.give(0, 1, 3, 2), 0);
        C.due("the third one has it", x.person(3, 2), 2);
        C.due("he was asked", x.person(1, 5), 1);
        C.due("his card is worn", x.person(1, 7), 2);
        C.due("the given one was not asked", x.person(3, 5), 0);
        C.due("nor worn", x.person(3, 7), 3);
        C.due("no deed", x.now(3), 0);
        C.due("one who does nothing gives, too; to the asker", x.give(0, 2, 3, 0), 0);
        C.due("the asker has it", x.person(3, 2), 0);
        C.due("himself to another one", x.give(4, 4, 4, 0), 0);
        C.due("he has him", x.person(4, 2), 0);
        C.due("three acts", x.count(4), 3);
        x.day();
        x.anew();
        C.due("to the one who gives", x.give(0, 1, 3, 1), 0);
        C.due("he keeps it", x.person(3, 2), 1);
        C.due("and was asked", x.now(1), 2);
        C.due("to the given one himself", x.give(4, 4, 4, 4), 0);
        x.day();
        C.due("his own card", x.give(0, 1, 3, 3), 0);
        C.due("he has it", x.ring(3), 1);
    }

    private static void refusedGifts() {
        C.promise(19);
        CardHolder x = Checks.cityOf(TOWN);
        x.ask(0, 2, 0);
        x.give(4, 4, 4, 4);
        List<Integer> before = Checks.view(x);
        C.due("not his card", x.give(2, 1, 3, 0), -5);
        C.due("asked today", x.give(4, 4, 4, 0), -5);
        C.due("not in that hand", x.give(0, 1, 2, 0), -5);
        C.due("the card of a free one", x.give(0, 1, 0, 0), -5);
        C.due("his own card, which he does not hold", x.give(0, 1, 1, 2), -5);
        C.due("a free one asked", x.give(1, 0, 1, 2), -5);
        for (int none : NO_PERSONS) {
            C.due("give(" + none + ", 1, 3, 2)", x.give(none, 1, 3, 2), -2);
            C.due("give(0, " + none + ", 3, 2)", x.give(0, none, 3, 2), -2);
            C.due("give(0, 1, " + none + ", 2)", x.give(0, 1, none, 2), -2);
            C.due("give(0, 1, 3, " + none + ")", x.give(0, 1, 3, none), -2);
        }
        C.due("nothing happened", Checks.view(x), before);
    }

    private static void givenFirst() {
        C.promise(19);
        CardHolder x = Checks.cityOf("city wear 1;person worth 1;person worth 1;person worth 1;card 1 to 0;card 2 to 1;");
        C.due("his last asking", x.give(0, 1, 2, 0), 0);
        C.due("he is free", x.person(1, 2), -1);
        C.due("the card was given", x.person(2, 2), 0);
        CardHolder y = Checks.cityOf("city wear 1;person worth 1;person worth 1;card 1 to 1;");
        C.due("himself, at his last asking", y.give(1, 1, 1, 0), 0);
        C.due("given, then worn out", y.person(1, 2), -1);
        C.due("nobody's", y.person(0, 3), 0);
        CardHolder z = Checks.cityOf("city wear 2;person worth 1;person worth 1;card 1 to 1 forged;");
        C.due("a forged one", z.give(1, 1, 1, 0), 0);
        C.due("is worn out, too", z.free(), 3);
    }

    private static void swap() {
        C.promise(20);
        CardHolder x = Checks.cityOf(TOWN);
        C.due("swap", x.swap(1, 3), 0);
        C.due("changed", x.person(1, 2), 1);
        C.due("changed", x.person(3, 2), 0);
        C.due("the third one stays", x.person(2, 2), 0);
        C.due("nobody asked", x.now(1), 0);
        C.due("nothing worn", x.person(1, 7), 3);
        C.due("one act", x.count(4), 1);
        C.due("the other way about, back", x.swap(3, 1), 0);
        C.due("back", x.person(1, 2), 0);
        x.ask(0, 1, 1);
        C.due("who was asked can be swapped", x.swap(1, 4), 0);
        C.due("his askings go with him", x.person(1, 7), 2);
        C.due("asked today still", x.why(4, 1, 1), 2);
    }

    private static void refusedSwaps() {
        C.promise(20);
        CardHolder x = Checks.cityOf(TOWN);
        List<Integer> before = Checks.view(x);
        C.due("the first is free", x.swap(0, 1), -5);
        C.due("the second is free", x.swap(1, 0), -5);
        C.due("both in one hand", x.swap(1, 2), -5);
        C.due("one twice", x.swap(1, 1), -2);
        C.due("one twice, free", x.swap(0, 0), -2);
        for (int none : NO_PERSONS) {
            C.due("swap(" + none + ", 1)", x.swap(none, 1), -2);
            C.due("swap(1, " + none + ")", x.swap(1, none), -2);
            C.due("swap(0, " + none + ")", x.swap(0, none), -2);
        }
        C.due("nothing happened", Checks.view(x), before);
        CardHolder y = Checks.cityOf(Checks.plain(1, -1, -1));
        C.due("both free", y.swap(0, 1), -5);
    }

    private static void steal() {
        C.promise(21);
        CardHolder x = Checks.cityOf(TOWN);
        C.due("steal", x.steal(2, 3), 1);
        C.due("in his hand", x.person(2, 3), 8);
        C.due("not in the other", x.person(1, 3), 0);
        C.due("one's own", x.steal(1, 1), 0);
        C.due("from himself", x.steal(0, 4), 4);
        C.due("stolen ones", x.now(2), 26);
        C.due("nobody asked", x.now(1), 0);
        C.due("three acts", x.count(4), 3);
        C.due("asked by the thief", x.ask(2, 3, 3), 2);
    }

    private static void refusedThefts() {
        C.promise(21);
        CardHolder x = Checks.cityOf(TOWN);
        x.steal(2, 3);
        List<Integer> before = Checks.view(x);
        C.due("free", x.steal(1, 0), -5);
        C.due("in his hand", x.steal(0, 1), -5);
        C.due("in his own hand", x.steal(4, 4), -5);
        C.due("stolen already", x.steal(0, 3), -5);
        C.due("stolen already, by who had it", x.steal(1, 3), -5);
        C.due("stolen already, by the thief", x.steal(2, 3), -5);
        for (int none : NO_PERSONS) {
            C.due("steal(" + none + ", 1)", x.steal(none, 1), -2);
            C.due("steal(2, " + none + ")", x.steal(2, none), -2);
        }
        C.due("nothing happened", Checks.view(x), before);
        x.day();
        C.due("no more stolen", x.steal(0, 3), 1);
        x.swap(3, 4);
        C.due("stolen already, in a third hand", x.steal(1, 3), -5);
        C.due("what it was swapped for is not", x.steal(1, 4), 0);
    }

    private static void stolenGoBack() {
        C.promise(22);
        CardHolder x = Checks.cityOf(TOWN);
        x.steal(2, 3);
        x.steal(0, 4);
        x.day();
        C.due("gone back", x.person(3, 2), 1);
        C.due("gone back", x.person(4, 2), 4);
        C.due("none stolen", x.now(2), 0);
        x.steal(2, 3);
        x.give(0, 2, 3, 4);
        C.due("given away", x.person(3, 2), 4);
        x.day();
        C.due("gone back from there", x.person(3, 2), 1);
        x.swap(3, 4);
        x.steal(0, 3);
        x.day();
        C.due("to who had it when it was stolen", x.person(3, 2), 4);
        x.undo();
        x.undo();
        x.steal(0, 3);
        x.swap(3, 4);
        x.day();
        C.due("a stolen one was swapped", x.person(3, 2), 4);
        C.due("the other stays swapped", x.person(4, 2), 0);
        CardHolder y = Checks.cityOf("city wear 1;person worth 1;person worth 1 does 0;card 1 to 0;");
        y.steal(1, 1);
        y.ask(1, 1, 0);
        y.day();
        C.due("one that is not held does not", y.free(), 3);
        CardHolder z = Checks.cityOf(Checks.plain(1, 1, -1, -1, -1, -1, -1, -1, 1));
        z.steal(2, 0);
        z.steal(2, 7);
        z.day();
        C.due("the first and the last of eight", z.person(1, 3), 129);
    }

    private static void day() {
        C.promise(22);
        CardHolder x = Checks.cityOf(TOWN);
        x.ask(0, 1, 1);
        x.ask(1, 3, 3);
        C.due("the first is 0", x.day(), 0);
        C.due("nobody was asked today", x.now(1), 0);
        C.due("what is worn stays worn", x.person(1, 7), 2);
        C.due("the second is 1", x.day(), 1);
        C.due("now the third", x.now(0), 2);
        C.due("of nobody", Checks.cityOf("city wear 1;").day(), 0);
    }

    private static void fortyActs() {
        C.promise(22);
        CardHolder x = Checks.cityOf(TOWN);
        for (int i = 0; i < 8; i++) {
            C.due("theft " + i, x.steal(2, 1), 0);
            C.due("swap " + i, x.swap(1, 3), 0);
            C.due("swap back " + i, x.swap(1, 3), 0);
            C.due("gift " + i, x.give(0, 2, 1, 2), i < 3 ? 0 : -5);
            C.due("day " + i, x.day(), i);
        }
        C.due("all but the refused count", x.count(4), 35);
        for (int i = 8; i < 13; i++) {
            C.due("day " + i, x.day(), i);
        }
        List<Integer> before = Checks.view(x);
        C.due("forty", x.count(4), 40);
        C.due("day", x.day(), -5);
        C.promise(18);
        C.due("ask", x.ask(0, 1, 1), -5);
        C.due("ask, none such", x.ask(0, 5, 1), -2);
        C.due("ask, no deed", x.ask(0, 1, 6), -2);
        C.promise(19);
        C.due("give", x.give(0, 1, 3, 0), -5);
        C.due("give, none such", x.give(0, 1, 3, 5), -2);
        C.promise(20);
        C.due("swap", x.swap(1, 3), -5);
        C.due("swap, one twice", x.swap(1, 1), -2);
        C.promise(21);
        C.due("steal", x.steal(4, 1), -5);
        C.due("steal, none such", x.steal(4, 5), -2);
        C.due("nothing happened", Checks.view(x), before);
        C.promise(22);
        C.due("undo", x.undo(), 39);
        C.due("why", x.why(0, 1, 1), 0);
        C.due("the fortieth", x.ask(0, 1, 1), 2);
        C.due("no more", x.day(), -5);
    }

    private static void undo() {
        C.promise(23);
        CardHolder x = Checks.cityOf(TOWN);
        C.due("none yet", x.undo(), -5);
        List<Integer> before = Checks.view(x);
        for (int act = 0; act < 8; act++) {
            undone(act);
            anAct(x, act);
        }
        for (int act = 7; act >= 0; act--) {
            C.due("undo act " + act, x.undo(), act);
        }
        C.due("none left", x.undo(), -5);
        C.due("as at first", Checks.view(x), before);
        C.due("of nobody", Checks.cityOf("city wear 1;").undo(), -5);
    }

    private static void undone(int last) {
        CardHolder x = Checks.cityOf(TOWN);
        for (int act = 0; act < last; act++) {
            anAct(x, act);
        }
        List<Integer> before = Checks.view(x);
        anAct(x, last);
        C.due("undo the latest, " + last, x.undo(), last);
        C.due("as ahead of act " + last, Checks.view(x), before);
        anAct(x, last);
        C.due("it can be done again", x.count(4), last + 1);
    }

    private static void anAct(CardHolder x, int act) {
        switch (act) {
            case 0: case 5:
                C.due("steal", x.steal(2, 3), 1);
                break;
            case 1: case 6:
                C.due("ask", x.ask(2, 3, 3), act == 1 ? 2 : 1);
                break;
            case 2:
                C.due("swap", x.swap(3, 4), 0);
                break;
            case 3:
                C.due("give", x.give(0, 2, 4, 1), 0);
                break;
            default:
                C.due("day", x.day(), act == 4 ? 0 : 1);
                break;
        }
    }

    private static void anew() {
        C.promise(24);
        CardHolder x = Checks.cityOf(TOWN);
        C.due("none yet", x.anew(), 0);
        List<Integer> before = Checks.view(x);
        for (int act = 0; act < 8; act++) {
            anAct(x, act);
        }
        C.due("eight", x.anew(), 8);
        C.due("as at first", Checks.view(x), before);
        C.due("none now", x.anew(), 0);
        C.due("none to undo", x.undo(), -5);
        for (int i = 0; i < 40; i++) {
            x.day();
        }
        C.due("forty", x.anew(), 40);
        C.due("room again", x.day(), 0);
        C.due("of nobody", Checks.cityOf("city wear 1;").anew(), 0);
    }

    private static void now() {
        C.promise(25);
        CardHolder x = Checks.cityOf(TOWN);
        for (int what = 0; what < 4; what++) {
            C.due("at first now(" + what + ")", x.now(what), 0);
        }
        for (int what : new int[] {-1, 4, 5, MIN, MAX}) {
            C.due("now(" + what + ")", x.now(what), -2);
        }
        x.ask(0, 1, 1);
        x.give(0, 2, 3, 4);
        C.due("a refused gift", x.count(4), 1);
        x.give(4, 4, 4, 0);
        x.steal(2, 3);
        x.steal(2, 1);
        C.due("day", x.now(0), 0);
        C.due("asked, gifts too", x.now(1), 18);
        C.due("stolen", x.now(2), 10);
        C.due("deeds, gifts aside", x.now(3), 1);
        x.day();
        C.due("the next day", x.now(0), 1);
        C.due("nobody asked", x.now(1), 0);
        C.due("none stolen", x.now(2), 0);
        C.due("deeds so far", x.now(3), 1);
        x.ask(0, 1, 1);
        C.due("the like deed again", x.now(3), 2);
        x.undo();
        C.due("taken back", x.now(3), 1);
        C.due("of nobody", Checks.cityOf("city wear 1;").now(0), 0);
    }
}
