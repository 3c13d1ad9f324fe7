import java.util.Arrays;
import java.util.List;

/** Promises 54 to 66 and Term VII at their edges. */
public final class RowEdgesTest {
    private static final Checks C = new Checks();
    private static final int MIN = Integer.MIN_VALUE;
    private static final int MAX = Integer.MAX_VALUE;
    private static final String NOBODY = "city wear 1;";
    /** 0 is free, holds 1 and 2 (forged); 1 holds 3. */
    private static final String COURT = "city wear 2;person worth 1;person worth 1 does 0 1;person worth 1 does 2;"
        + "person worth 1 does 3;card 1 to 0;card 2 to 0 forged;card 3 to 1;";
    /** Person 0, 1, .. 5 wishes that deed alone: who is suspected tells which number a row has. */
    private static final String READERS = "city wear 1;person worth 1 wishes 0;person worth 1 wishes 1;"
        + "person worth 1 wishes 2;person worth 1 wishes 3;person worth 1 wishes 4;person worth 1 wishes 5;";

    public static void main(String[] args) {
        judged();
        judgedFromTheStart();
        notJudged();
        drawn();
        luck();
        winds();
        rate();
        forge();
        count();
        image();
        imagesAreTheirOwn();
        back();
        row();
        rowStays();
        write();
        paste();
        pasteOntoItself();
        refusedPastes();
        C.close("RowEdgesTest", 54, 66);
    }

    private static void judged() {
        CardHolder x = Checks.cityOf(COURT);
        judge(x, 0, 1);
        judge(x, 1, 1, 0, 1, 0);
        judge(x, 0, 1, 1, 0, 0);
        judge(x, 0, 1, 0, 3, 3);
        judge(x, 0, 1, 0, 1, 2);
        judge(x, 1, 1, 0, 1, 0, 0, 1, 1);
        judge(x, 1, 1, 0, 1, 0, 0, 1, 1, 1, 3, 3);
        judge(x, 3, 3, 0, 1, 0, -1, -1, -1, 0, 1, 1);
        judge(x, 4, 3, 0, 1, 0, -1, -1, -1, 0, 1, 1, -1, -1, -1, 0, 1, 1);
        judge(x, 1, 5, 0, 2, 2);
        judge(x, 2, 5, 0, 2, 2, -1, -1, -1, 0, 2, 2);
        judge(x, 2, 1, 0, 1, 0, 1, 3, 3);
        judge(x, 1, 1, -1, -1, -1);
        judge(x, 1, 1, -1, -1, -1, 1, 0, 0, -1, -1, -1);
        long[] sixty = new long[60];
        Arrays.fill(sixty, -1);
        judge(x, 20, 1, sixty);
        CardHolder y = Checks.cityOf(NOBODY);
        judge(y, 0, 0);
        judge(y, 2, 0, -1, -1, -1, -1, -1, -1);
        judge(y, -2, -2, 0, 0, 0);
    }

    private static void judge(CardHolder x, int want, int free, long... numbers) {
        Checks.row(x, 2, 3, numbers);
        C.promise(54);
        C.due("judge of " + Arrays.toString(numbers), x.judge(2), want);
        C.promise(55);
        C.due("freed of " + Arrays.toString(numbers), x.freed(2), free);
    }

    private static void judgedFromTheStart() {
        CardHolder alone = Checks.cityOf(COURT);
        Checks.row(alone, 0, 0, 0, 2, 2);
        C.promise(55);
        C.due("freed, though judge() was not called", alone.freed(0), 5);
        CardHolder himself = Checks.cityOf("city wear 1;person worth 1 does 0;card 0 to 0;");
        himself.row(0, 0, 0);
        C.due("nobody by an empty row", himself.freed(0), 0);
        himself.row(0, 0, 3);
        C.due("one by a row of 0", himself.freed(0), 1);
        CardHolder x = Checks.cityOf(COURT);
        x.ask(0, 1, 0);
        x.steal(3, 2);
        x.ask(3, 2, 2);
        List<Integer> before = Checks.view(x);
        judge(x, 2, 5, 0, 1, 0, 0, 2, 2);
        judge(x, 0, 1, 3, 2, 2);
        C.due("nothing happened", Checks.view(x), before);
        x.anew();
        x.forge(2, 0);
        x.forge(1, 1);
        judge(x, 2, 3, 0, 1, 0, 0, 2, 2);
        for (int i = 0; i < 40; i++) {
            x.day();
        }
        judge(x, 2, 3, 0, 1, 0, 0, 2, 2);
        x.image(0);
        Checks.feed(x, COURT);
        x.city();
        judge(x, 2, 5, 0, 1, 0, 0, 2, 2);
        x.back(0);
        judge(x, 2, 3, 0, 1, 0, 0, 2, 2);
    }

    /** No such slot and no city come first, then a slot that has nothing, then the numbers. */
    private static void notJudged() {
        CardHolder x = Checks.cityOf(COURT);
        for (int slot : new int[] {-1, 4, 5, MIN, MAX}) {
            notJudged("slot " + slot, x, slot, -2);
        }
        for (int slot = 0; slot < 4; slot++) {
            notJudged("nothing in " + slot, x, slot, -6);
        }
        for (int n : new int[] {1, 2, 4, 5, 58, 59}) {
            x.row(0, 0, n);
            notJudged("not three each, " + n, x, 0, -2);
        }
        for (long none : new long[] {-2, 4, 8, 256, 1L << 32, (1L << 32) - 1, Long.MIN_VALUE, Long.MAX_VALUE}) {
            judge(x, -2, -2, none, 1, 0);
            judge(x, -2, -2, 0, none, 0);
        }
        for (long none : new long[] {-1, 6, 256, 1L << 32, Long.MIN_VALUE, Long.MAX_VALUE}) {
            judge(x, -2, -2, 0, 1, none);
        }
        judge(x, -2, -2, -1, 1, 0);
        judge(x, -2, -2, 0, -1, 0);
        judge(x, -2, -2, -1, -1, 0);
        judge(x, -2, -2, -1, 1, -1);
        judge(x, -2, -2, 0, -1, -1);
        judge(x, -2, -2, 0, 0, 0, 0, 1, 6);
        judge(x, -2, -2, 0, -1, -1, -1, 1, 0);
        CardHolder y = new CardHolder();
        notJudged("no city, nothing", y, 0, -2);
        y.row(0, 0, 0);
        notJudged("no city, a row", y, 0, -2);
        judgedOfAllWidths();
    }

    private static void judgedOfAllWidths() {
        CardHolder x = Checks.cityOf(COURT);
        long[] cut = {255, 65535, 4294967295L, -1};
        for (int width = 0; width < 4; width++) {
            Checks.row(x, 1, width, cut[width], -1, cut[width], 0, 1, 0);
            C.promise(54);
            C.due("NONE of width " + width, x.judge(1), 2);
        }
    }

    private static void notJudged(String name, CardHolder x, int slot, int want) {
        C.promise(54);
        C.due(name, x.judge(slot), want);
        C.promise(55);
        C.due(name, x.freed(slot), want);
    }

    private static final int[] NO_SEEDS = {-1, 2000000001, MIN, MAX};
    private static final int[] NO_NUMBERS = {0, 21, -1, MIN, MAX};

    private static CardHolder people(int n) {
        return Checks.cityOf("city wear 1;" + "person worth 1;".repeat(n));
    }

    /** The answers were reckoned apart from any Java. */
    private static void drawn() {
        C.promise(56);
        square(0, 0);
        square(2000000000, 0);
        square(0, 1, 0);
        square(5, 0, 1);
        square(0, 2, 0, 1);
        square(1, 1, 0, 2);
        square(1999999999, 2, 1, 0);
        square(0, 7, 2, 4, 1, 5, 3, 6, 0);
        square(5, 1, 6, 5, 0, 2, 4, 3, 7);
        square(2000000000, 7, 1, 4, 0, 3, 5, 2, 6);
        CardHolder x = people(3);
        List<Integer> before = Checks.view(x);
        for (int seed : NO_SEEDS) {
            C.due("drawn(" + seed + ", 0)", x.drawn(seed, 0), -2);
        }
        for (int card : new int[] {-1, 3, 8, 32, MIN, MAX}) {
            C.due("drawn(0, " + card + ")", x.drawn(0, card), -2);
        }
        C.due("of nobody", Checks.cityOf(NOBODY).drawn(0, 0), -2);
        C.due("nothing happened", Checks.view(x), before);
    }

    private static void square(int seed, int... holders) {
        CardHolder x = people(holders.length);
        for (int card = 0; card < holders.length; card++) {
            C.due("drawn(" + seed + ", " + card + ") of " + holders.length, x.drawn(seed, card), holders[card]);
        }
    }

    private static void luck() {
        C.promise(57);
        lucky(0, 1, 0, 0, 0);
        lucky(0, 20, 6, 9, 9);
        lucky(5, 4, 2, 1, 1);
        lucky(2000000000, 1, 1, 0, 0);
        lucky(2000000000, 20, 6, 4, 4);
        lucky(0, 20, 2, 3, 3, 3, 2, 3, 2, 2);
        lucky(2000000000, 20, 2, 4, 0, 2, 3, 2, 1, 2);
        lucky(7, 20, 20);
        CardHolder x = people(3);
        for (int seed : NO_SEEDS) {
            C.due("luck(" + seed + ", 1, 0)", x.luck(seed, 1, 0), -2);
        }
        for (int n : NO_NUMBERS) {
            C.due("luck(0, " + n + ", 0)", x.luck(0, n, 0), -2);
        }
        for (int person : new int[] {-1, 3, 8, 32, MIN, MAX}) {
            C.due("luck(0, 1, " + person + ")", x.luck(0, 1, person), -2);
        }
        C.due("of nobody", Checks.cityOf(NOBODY).luck(0, 1, 0), -2);
    }

    private static void lucky(int seed, int n, int... times) {
        CardHolder x = people(times.length);
        for (int person = 0; person < times.length; person++) {
            C.due("luck(" + seed + ", " + n + ", " + person + ") of " + times.length, x.luck(seed, n, person), times[person]);
        }
    }

    private static void winds() {
        C.promise(58);
        CardHolder x = people(3);
        C.due("one", x.winds(0, 1), 1);
        C.due("twenty", x.winds(0, 20), 39);
        C.due("four", x.winds(5, 4), 7);
        C.due("the highest seed", x.winds(2000000000, 1), 2);
        C.due("beyond the highest seed", x.winds(2000000000, 20), 33);
        C.due("eight persons", people(8).winds(0, 20), 61);
        C.due("eight persons, beyond", people(8).winds(2000000000, 20), 50);
        C.due("one person", people(1).winds(0, 20), 20);
        C.due("nobody", Checks.cityOf(NOBODY).winds(0, 20), 0);
        C.due("the city's own rings stay", x.rings(), 0);
        for (int seed : NO_SEEDS) {
            C.due("winds(" + seed + ", 1)", x.winds(seed, 1), -2);
        }
        for (int n : NO_NUMBERS) {
            C.due("winds(0, " + n + ")", x.winds(0, n), -2);
        }
    }

    private static void rate() {
        C.promise(59);
        CardHolder x = Checks.cityOf(COURT);
        C.due("the most", x.rate(3, 999), 1);
        C.due("from now on", x.person(3, 0), 999);
        C.due("the least", x.rate(3, 1), 999);
        C.due("from now on", x.person(3, 0), 1);
        C.due("a free one", x.rate(0, 7), 1);
        C.due("a free one", x.person(0, 0), 7);
        List<Integer> before = Checks.view(x);
        for (int n : new int[] {0, 1000, -1, MIN, MAX}) {
            C.due("rate(3, " + n + ")", x.rate(3, n), -2);
        }
        for (int person : new int[] {-1, 4, 8, 32, MIN, MAX}) {
            C.due("rate(" + person + ", 5)", x.rate(person, 5), -2);
        }
        C.due("nothing happened", Checks.view(x), before);
        x.day();
        before = Checks.view(x);
        C.due("there were acts", x.rate(3, 5), -5);
        C.due("none such, with acts", x.rate(4, 5), -2);
        C.due("no such worth, with acts", x.rate(3, 0), -2);
        C.due("nothing happened", Checks.view(x), before);
        x.undo();
        C.due("taken back", x.rate(3, 5), 1);
        C.due("it is no act", x.undo(), -5);
        C.due("it stays", x.person(3, 0), 5);
    }

    private static void forge() {
        C.promise(60);
        CardHolder x = Checks.cityOf(COURT);
        C.due("forged", x.forge(3, 1), 0);
        C.due("from now on", x.person(3, 6), 1);
        C.due("once alone", x.person(3, 7), 1);
        C.due("twice as long", x.time(1, 3), 2);
        C.due("forged still", x.forge(3, 1), 1);
        C.due("not", x.forge(2, 0), 1);
        C.due("from now on", x.person(2, 6), 0);
        C.due("as wear tells", x.person(2, 7), 2);
        C.due("not still", x.forge(2, 0), 0);
        List<Integer> before = Checks.view(x);
        for (int is : new int[] {2, -1, MIN, MAX}) {
            C.due("forge(3, " + is + ")", x.forge(3, is), -2);
        }
        for (int card : new int[] {-1, 4, 8, 32, MIN, MAX}) {
            C.due("forge(" + card + ", 1)", x.forge(card, 1), -2);
        }
        C.due("nothing happened", Checks.view(x), before);
        x.day();
        before = Checks.view(x);
        C.due("there were acts", x.forge(3, 0), -5);
        C.due("none such, with acts", x.forge(4, 0), -2);
        C.due("neither, with acts", x.forge(3, 2), -2);
        C.due("nothing happened", Checks.view(x), before);
        x.anew();
        C.due("taken back", x.forge(3, 0), 1);
        C.due("it is no act", x.undo(), -5);
    }

    private static void count() {
        C.promise(61);
        CardHolder x = Checks.cityOf(COURT);
        counts(x, 4, 2, 3, 1, 0, 8, 0, 0);
        for (int what : new int[] {-1, 8, 9, MIN, MAX}) {
            C.due("count(" + what + ")", x.count(what), -1);
        }
        x.ask(0, 2, 2);
        x.feed(1, 2, 3, 4, 5);
        x.row(3, 0, 0);
        x.row(0, 3, 60);
        x.row(0, 3, 1);
        x.row(1, 3, -1);
        x.row(1, 3, 61);
        counts(x, 4, 2, 2, 1, 1, 8, 20, 2);
        x.end(0);
        x.city();
        counts(x, 0, 0, 0, 0, 0, 0, 0, 2);
        for (int slot = 0; slot < 4; slot++) {
            x.row(slot, 0, 0);
        }
        Checks.feed(x, "city wear 9;" + "person worth 1;".repeat(8) + Checks.cards(0, 1, 2, 3, 4, 5, 6, 7));
        x.city();
        for (int card = 0; card < 8; card++) {
            x.forge(card, 1);
        }
        for (int i = 0; i < 41; i++) {
            x.day();
        }
        counts(x, 8, 9, 8, 8, 40, 17, 0, 4);
        C.due("count(8)", new CardHolder().count(8), -1);
    }

    private static void counts(CardHolder x, int... want) {
        for (int what = 0; what < 8; what++) {
            C.due("count(" + what + ")", x.count(what), want[what]);
        }
    }

    private static void image() {
        C.promise(62);
        CardHolder x = Checks.cityOf(COURT);
        List<Integer> before = Checks.view(x);
        for (int k : new int[] {-1, 3, 4, MIN, MAX}) {
            C.due("image(" + k + ")", x.image(k), -2);
        }
        for (int k = 0; k < 3; k++) {
            C.due("none kept by those, " + k, x.back(k), -6);
            C.due("image(" + k + ")", x.image(k), 0);
        }
        C.due("nothing happened", Checks.view(x), before);
        x.day();
        C.due("in place of another one", x.image(1), 0);
        x.anew();
        x.back(1);
        C.due("the later one", x.count(4), 1);
        x.back(0);
        C.due("the other ones stay", x.count(4), 0);
        x.back(2);
        C.due("the other ones stay", x.count(4), 0);
    }

    private static void imagesAreTheirOwn() {
        C.promise(62);
        CardHolder x = Checks.cityOf(COURT);
        x.rate(1, 50);
        x.forge(3, 1);
        x.ask(0, 1, 0);
        x.steal(3, 2);
        x.ask(1, 3, 3);
        List<Integer> kept = Checks.view(x);
        x.image(2);
        x.day();
        C.due("later acts", x.anew(), 4);
        x.rate(1, 60);
        x.forge(3, 0);
        x.day();
        x.swap(1, 3);
        x.steal(2, 1);
        x.day();
        x.back(2);
        C.due("do not touch it", Checks.view(x), kept);
        x.anew();
        C.due("as it was ahead of its acts", x.person(1, 0), 50);
        x.rate(1, 70);
        x.back(2);
        C.due("nor what is done after going back", Checks.view(x), kept);
        C.due("its acts can be taken back", x.undo(), 2);
        C.due("its acts can be taken back", x.anew(), 2);
        for (int i = 0; i < 40; i++) {
            x.day();
        }
        x.image(0);
        x.anew();
        x.back(0);
        C.due("forty acts", x.count(4), 40);
        C.due("forty acts", x.day(), -5);
        C.due("forty days", x.now(0), 40);
    }

    private static void back() {
        C.promise(63);
        CardHolder x = new CardHolder();
        x.image(0);
        Checks.feed(x, COURT);
        x.city();
        x.steal(3, 2);
        List<Integer> before = Checks.view(x);
        for (int k : new int[] {-1, 3, 4, MIN, MAX}) {
            C.due("back(" + k + ")", x.back(k), -2);
        }
        C.due("it has nothing", x.back(1), -6);
        C.due("it has nothing", x.back(2), -6);
        C.due("nothing happened", Checks.view(x), before);
        x.image(1);
        x.feed(1, 2, 3, 4, 5);
        Checks.row(x, 0, 0, 3);
        C.due("back", x.back(1), 0);
        C.due("the tape is its own", x.count(6), 20);
        C.due("the rows are their own", x.count(7), 1);
        C.due("the same again", Checks.view(x), before);
        C.due("back to no city", x.back(0), 0);
        C.withoutCity("back to none", x);
        C.due("back to the city", x.back(1), 0);
        C.due("the same again", Checks.view(x), before);
    }

    /** Number i of a slot's row as a deed's bit; -2: it is no deed. Slot 3 is used for it. */
    private static int read(CardHolder x, int slot, int width, int i) {
        x.row(3, width, 1);
        C.due("reading", x.paste(slot, i, 3, 0, 1), 0);
        return x.suspects(3);
    }

    private static void row() {
        C.promise(64);
        CardHolder x = Checks.cityOf(READERS);
        for (int slot = 0; slot < 3; slot++) {
            C.due("row", x.row(slot, slot, 2), 0);
            C.due("0", read(x, slot, slot, 0), 1);
            C.due("0", read(x, slot, slot, 1), 1);
            x.write(slot, 0, 4);
            x.write(slot, 1, 5);
            C.due("4", read(x, slot, slot, 0), 16);
            C.due("5", read(x, slot, slot, 1), 32);
            C.due("in place of another one", x.row(slot, slot + 1, 2), 0);
            C.due("all 0, the first", read(x, slot, slot + 1, 0), 1);
            C.due("all 0, the last", read(x, slot, slot + 1, 1), 1);
        }
        C.due("the most", x.row(0, 3, 60), 0);
        C.due("its last", x.write(0, 59, 4), 0);
        C.due("its last", read(x, 0, 3, 59), 16);
        C.due("none", x.row(0, 3, 0), 0);
        C.due("none of none", x.write(0, 0, 1), -7);
        C.due("none is a row, too", x.suspects(0), 63);
        C.due("the most again", x.row(0, 3, 60), 0);
        C.due("all 0, the last, too", read(x, 0, 3, 59), 1);
        C.due("slot 3", x.row(3, 0, 1), 0);
    }

    private static void rowStays() {
        C.promise(64);
        CardHolder x = Checks.cityOf(READERS);
        for (int n : new int[] {-1, -60, MIN}) {
            C.due("row(0, 0, " + n + ") of nothing", x.row(0, 0, n), -3);
            C.due("no row", x.count(7), 0);
        }
        Checks.row(x, 0, 1, 2, 3);
        for (int n : new int[] {-1, -2, MIN}) {
            C.due("row(0, 0, " + n + ")", x.row(0, 0, n), -3);
        }
        for (int n : new int[] {61, 62, 256, MAX}) {
            C.due("row(0, 0, " + n + ")", x.row(0, 0, n), -2);
        }
        for (int width : new int[] {-1, 4, 5, MIN, MAX}) {
            C.due("row(0, " + width + ", 1)", x.row(0, width, 1), -2);
            C.due("row(0, " + width + ", -1)", x.row(0, width, -1), -2);
        }
        for (int slot : new int[] {-1, 4, 5, MIN, MAX}) {
            C.due("row(" + slot + ", 0, 1)", x.row(slot, 0, 1), -2);
            C.due("row(" + slot + ", 0, -1)", x.row(slot, 0, -1), -2);
        }
        C.due("the slot stays, its size", x.write(0, 2, 0), -7);
        C.due("the slot stays, its width and number 0", read(x, 0, 1, 0), 4);
        C.due("the slot stays, number 1", read(x, 0, 1, 1), 8);
    }

    private static void write() {
        C.promise(65);
        CardHolder x = Checks.cityOf(READERS);
        for (int width = 0; width < 4; width++) {
            x.row(0, width, 3);
            x.write(0, 0, 4);
            x.write(0, 2, 5);
            long[] written = {3, 259, 65539, 4294967299L, -253, -65533, -4294967293L, Long.MIN_VALUE + 3, 255, 6, -1};
            int[] least = {0, 0, 1, 2, 0, 1, 2, 2, -1, -1, -1};
            for (int v = 0; v < written.length; v++) {
                C.due("write", x.write(0, 1, written[v]), 0);
                boolean isThree = written[v] == 3 || (least[v] >= 0 && width <= least[v]);
                C.due(written[v] + " of width " + width, read(x, 0, width, 1), isThree ? 8 : -2);
            }
            C.due("the number ahead stays", read(x, 0, width, 0), 16);
            C.due("the number behind stays", read(x, 0, width, 2), 32);
        }
        for (int i : new int[] {-1, 3, 4, 60, MIN, MAX}) {
            C.due("write(0, " + i + ", 1)", x.write(0, i, 1), -7);
            C.due("write(1, " + i + ", 1)", x.write(1, i, 1), -6);
            C.due("write(4, " + i + ", 1)", x.write(4, i, 1), -2);
        }
        for (int slot : new int[] {-1, 4, 5, MIN, MAX}) {
            C.due("write(" + slot + ", 0, 1)", x.write(slot, 0, 1), -2);
        }
        C.due("all stay", read(x, 0, 3, 2), 32);
    }

    private static void paste() {
        C.promise(66);
        CardHolder x = Checks.cityOf(READERS);
        Checks.row(x, 0, 2, 0, 1, 2, 3, 4, 5);
        Checks.row(x, 1, 2, 5, 5, 5, 5);
        C.due("the last two behind the first", x.paste(0, 4, 1, 1, 2), 0);
        has(x, 1, 2, 5, 4, 5, 5);
        C.due("up to the end", x.paste(0, 1, 1, 2, 2), 0);
        has(x, 1, 2, 5, 4, 1, 2);
        C.due("a whole row", x.paste(0, 2, 1, 0, 4), 0);
        has(x, 1, 2, 2, 3, 4, 5);
        has(x, 0, 2, 0, 1, 2, 3, 4, 5);
        C.due("none", x.paste(0, 0, 1, 0, 0), 0);
        C.due("none from the end to the end", x.paste(0, 6, 1, 4, 0), 0);
        has(x, 1, 2, 2, 3, 4, 5);
        C.due("all sixty", sixtyPasted(), 0);
    }

    private static int sixtyPasted() {
        CardHolder x = new CardHolder();
        x.row(0, 3, 60);
        x.row(1, 3, 60);
        return x.paste(0, 0, 1, 0, 60);
    }

    private static void has(CardHolder x, int slot, int width, int... numbers) {
        for (int i = 0; i < numbers.length; i++) {
            C.due("number " + i, read(x, slot, width, i), 1 << numbers[i]);
        }
    }

    private static void pasteOntoItself() {
        C.promise(66);
        CardHolder x = Checks.cityOf(READERS);
        Checks.row(x, 0, 0, 0, 1, 2, 3, 4, 5);
        C.due("behind itself", x.paste(0, 0, 0, 1, 4), 0);
        has(x, 0, 0, 0, 0, 1, 2, 3, 5);
        Checks.row(x, 0, 0, 0, 1, 2, 3, 4, 5);
        C.due("ahead of itself", x.paste(0, 2, 0, 1, 4), 0);
        has(x, 0, 0, 0, 2, 3, 4, 5, 5);
        C.due("onto its place", x.paste(0, 0, 0, 0, 6), 0);
        has(x, 0, 0, 0, 2, 3, 4, 5, 5);
    }

    private static void refusedPastes() {
        C.promise(66);
        CardHolder x = Checks.cityOf(READERS);
        Checks.row(x, 0, 0, 1, 2, 3);
        Checks.row(x, 1, 0, 4, 5);
        x.row(2, 1, 3);
        for (int none : new int[] {-1, 4, 5, MIN, MAX}) {
            C.due("from slot " + none, x.paste(none, 0, 1, 0, 1), -2);
            C.due("to slot " + none, x.paste(0, 0, none, 0, 1), -2);
            C.due("from one that has nothing to slot " + none, x.paste(3, -1, none, 0, 1), -2);
        }
        C.due("from one that has nothing", x.paste(3, 0, 0, 0, 1), -6);
        C.due("to one that has nothing", x.paste(0, 0, 3, 0, 1), -6);
        C.due("to itself that has nothing", x.paste(3, 0, 3, 0, 0), -6);
        C.due("nothing, ahead of places", x.paste(3, -1, 0, 9, 1), -6);
        C.due("widths", x.paste(0, 0, 2, 0, 1), -8);
        C.due("widths, the other way", x.paste(2, 0, 0, 0, 1), -8);
        C.due("widths, though none", x.paste(0, 0, 2, 0, 0), -8);
        C.due("widths, ahead of places", x.paste(0, -1, 2, 9, -1), -8);
        int[][] beyond = {
            {1, 0, 3}, {0, 0, 3}, {2, 0, 2}, {0, 1, 2}, {3, 0, 1}, {0, 2, 1}, {4, 0, 0}, {0, 3, 0}, {-1, 0, 1}, {0, -1, 1},
            {0, 0, -1}, {-1, 0, 0}, {0, -1, 0}, {MIN, 0, 1}, {0, MIN, 1}, {0, 0, MIN}, {MAX, 0, 1}, {0, MAX, 1}, {0, 0, MAX},
            {MAX, 0, MAX}, {0, MAX, MAX}, {MAX, MAX, MAX}, {MIN, MIN, MIN}, {2, 0, MAX}, {0, 1, MAX}, {3, 2, -1}, {MAX, MAX, 0},
        };
        for (int[] p : beyond) {
            C.due("paste from " + p[0] + " to " + p[1] + " of " + p[2], x.paste(0, p[0], 1, p[1], p[2]), -7);
        }
        has(x, 0, 0, 1, 2, 3);
        has(x, 1, 0, 4, 5);
    }
}
