/**
 * A city of persons, each of whom is commanded by whoever holds his card.
 *
 * Sets of persons, cards and deeds are bits of an int throughout. A person and
 * his card bear the same number, so "card" and "person" name one index.
 */
public final class CardHolder {
    public static final int NONE = -1;

    private static final int NO_SUCH = -2;
    private static final int BELOW_ZERO = -3;
    private static final int FAULTY = -4;
    private static final int CANNOT = -5;
    private static final int NOTHING = -6;
    private static final int NO_NUMBER = -7;
    private static final int UNLIKE_WIDTHS = -8;
    private static final int NO_LAY = -1000;
    private static final int NO_PEACE = -10000;

    private static final int MOST_PERSONS = 8;
    private static final int PERSON_SETS = 256;
    private static final int DEED_KINDS = 6;
    private static final int DEED_SETS = 64;
    private static final int MOST_ACTS = 40;
    private static final int TAPE_BYTES = 900;
    private static final int MOST_WORTH = 999;
    private static final int MOST_WEAR = 9;
    private static final int MOST_HIRE = 2000;
    private static final int IMAGES = 3;
    private static final int SLOTS = 4;
    private static final int ROW_NUMBERS = 60;
    private static final int MOST_SEED = 2000000000;
    private static final int MOST_SQUARES = 20;

    private final Tape tape;
    private final Reader reader;
    private final Play play;
    private final Play[] images;
    private final boolean[] kept;
    private final Rows rows;
    private final Hands trial;
    private final Bonds fancy;
    private final Square square;
    private final Choice choice;
    private final Peace peace;

    public CardHolder() {
        tape = new Tape();
        reader = new Reader(tape);
        play = new Play();
        images = new Play[IMAGES];
        for (int k = 0; k < IMAGES; k++) {
            images[k] = new Play();
        }
        kept = new boolean[IMAGES];
        rows = new Rows();
        trial = new Hands(play.town);
        fancy = new Bonds();
        square = new Square();
        choice = new Choice();
        peace = new Peace();
    }

    // ---- the text

    public int feed(int a, int b, int c, int d, int e) {
        if (!tape.hasRoomFor(20)) {
            return NONE;
        }
        tape.add(a);
        tape.add(b);
        tape.add(c);
        tape.add(d);
        tape.add(e);
        return tape.size;
    }

    public int end(int n) {
        return tape.cutTo(n) ? n : NONE;
    }

    public int city() {
        if (!reader.readTape()) {
            return FAULTY;
        }
        tape.cutTo(0);
        play.begin(reader.draft);
        return play.town.lines;
    }

    public int fault(int what) {
        switch (what) {
            case 0:
                return reader.wrong;
            case 1:
                return reader.wrongPlace;
            default:
                return NONE;
        }
    }

    // ---- persons, and who is under whom

    public int person(int person, int what) {
        if (!isPerson(person)) {
            return NO_SUCH;
        }
        switch (what) {
            case 0:
                return play.town.worthOf(person);
            case 1:
                return play.town.deedsOf(person);
            case 2:
                return bonds().holderOf(person);
            case 3:
                return bonds().handOf(person);
            case 4:
                return play.town.wishesOf(person);
            case 5:
                return bitOf(play.hands.askedToday, person);
            case 6:
                return play.town.forgedOf(person);
            case 7:
                return play.hands.leftOf(person);
            default:
                return NO_SUCH;
        }
    }

    public int free() {
        return hasCity() ? bonds().freeOnes() : NO_SUCH;
    }

    public int under(int person) {
        return isPerson(person) ? bonds().below(person) : NO_SUCH;
    }

    public int time(int person, int other) {
        if (!isPerson(person) || !isPerson(other)) {
            return NO_SUCH;
        }
        return play.timeTo(person, other);
    }

    public int top(int person) {
        return isPerson(person) ? bonds().topOf(person) : NO_SUCH;
    }

    public int ring(int person) {
        return isPerson(person) ? bonds().ringOf(person) : NO_SUCH;
    }

    public int rings() {
        return hasCity() ? bonds().ringCount() : NO_SUCH;
    }

    // ---- chains of askings

    public int chain(int person, int deed) {
        int last = doer(person, deed);
        return last < 0 ? last : play.timeTo(person, last);
    }

    public int doer(int person, int deed) {
        if (!isPerson(person) || !isDeed(deed)) {
            return NO_SUCH;
        }
        return play.quickestDoer(person, deed);
    }

    public int asked(int person, int deed, int i) {
        int last = doer(person, deed);
        if (last < 0) {
            return last;
        }
        int steps = bonds().stepsTo(person, last);
        if (i < 0 || i >= steps) {
            return NONE;
        }
        return bonds().climb(last, steps - 1 - i);
    }

    public int can(int person) {
        if (!isPerson(person)) {
            return NO_SUCH;
        }
        return play.town.wishesOf(person) & play.town.deedsOfAll(bonds().below(person));
    }

    // ---- acts

    public int why(int person, int other, int deed) {
        if (!isPerson(person) || !isPerson(other) || !isDeed(deed)) {
            return NO_SUCH;
        }
        return play.hands.refusal(person, other, deed);
    }

    public int ask(int person, int other, int deed) {
        int reason = why(person, other, deed);
        if (reason == NO_SUCH) {
            return NO_SUCH;
        }
        if (reason != 0 || !play.hasRoom()) {
            return CANNOT;
        }
        play.act(Play.ASK, person, other, 0, 0);
        return play.hands.leftOf(other);
    }

    public int give(int person, int other, int card, int to) {
        if (!isPerson(person) || !isPerson(other) || !isPerson(card) || !isPerson(to)) {
            return NO_SUCH;
        }
        boolean refused = play.hands.refusalToCome(person, other) != 0;
        if (refused || bonds().holderOf(card) != other || !play.hasRoom()) {
            return CANNOT;
        }
        play.act(Play.GIVE, person, other, card, to);
        return 0;
    }

    public int swap(int card, int other) {
        if (!isPerson(card) || !isPerson(other) || card == other) {
            return NO_SUCH;
        }
        int one = bonds().holderOf(card);
        int two = bonds().holderOf(other);
        if (one == NONE || two == NONE || one == two || !play.hasRoom()) {
            return CANNOT;
        }
        play.act(Play.SWAP, card, other, 0, 0);
        return 0;
    }

    public int steal(int person, int card) {
        if (!isPerson(person) || !isPerson(card)) {
            return NO_SUCH;
        }
        int had = bonds().holderOf(card);
        boolean stolenNow = bitOf(play.hands.stolen, card) == 1;
        if (had == NONE || had == person || stolenNow || !play.hasRoom()) {
            return CANNOT;
        }
        play.act(Play.STEAL, person, card, 0, 0);
        return had;
    }

    public int day() {
        if (!hasCity()) {
            return NO_SUCH;
        }
        if (!play.hasRoom()) {
            return CANNOT;
        }
        int ended = play.hands.today;
        play.act(Play.DAY, 0, 0, 0, 0);
        return ended;
    }

    public int undo() {
        if (!hasCity()) {
            return NO_SUCH;
        }
        if (play.acts == 0) {
            return CANNOT;
        }
        play.replay(play.acts - 1);
        return play.acts;
    }

    public int anew() {
        if (!hasCity()) {
            return NO_SUCH;
        }
        int were = play.acts;
        play.replay(0);
        return were;
    }

    public int now(int what) {
        if (!hasCity()) {
            return NO_SUCH;
        }
        switch (what) {
            case 0:
                return play.hands.today;
            case 1:
                return play.hands.askedToday;
            case 2:
                return play.hands.stolen;
            case 3:
                return play.hands.deedsDone;
            default:
                return NO_SUCH;
        }
    }

    // ---- one's own card back

    public int own() {
        if (!hasCity()) {
            return NO_SUCH;
        }
        if (!bonds().isOneEach()) {
            return NONE;
        }
        return bonds().persons - bonds().ringCount();
    }

    public int first(int what) {
        if (!hasCity() || what < 0 || what > 1) {
            return NO_SUCH;
        }
        if (!bonds().isOneEach()) {
            return NONE;
        }
        // a swap within a ring parts it in two: the least ringed person goes with the next of his ring
        for (int person = 0; person < bonds().persons; person++) {
            if (bonds().ringOf(person) > 1) {
                return what == 0 ? person : bonds().nextOfRing(person);
            }
        }
        return NONE;
    }

    // ---- a day's work

    public int work() {
        if (!hasCity()) {
            return NO_SUCH;
        }
        int sum = 0;
        for (int holder = 0; holder < bonds().persons; holder++) {
            sum += play.mostWishes(play.askable(holder), play.town.wishesOf(holder));
        }
        return sum;
    }

    public int works(int person) {
        if (!isPerson(person)) {
            return NO_SUCH;
        }
        return play.workOf(person);
    }

    // ---- hands that cover deeds, faces that are bought

    public int cover(int deeds) {
        int set = covers(deeds);
        return set < 0 ? set : Integer.bitCount(set);
    }

    public int covers(int deeds) {
        if (!hasCity() || !isDeedSet(deeds)) {
            return NO_SUCH;
        }
        choice.takeHands(play);
        return choice.cheapest(deeds);
    }

    public int buy(int deeds) {
        int set = bought(deeds);
        return set < 0 ? set : choice.costOf(set);
    }

    public int bought(int deeds) {
        if (!hasCity() || !isDeedSet(deeds)) {
            return NO_SUCH;
        }
        choice.takePersons(play);
        return choice.cheapest(deeds);
    }

    public int deeds(int n) {
        int set = hired(n);
        return set < 0 ? set : Integer.bitCount(choice.deedsOf(set));
    }

    public int hired(int n) {
        if (!hasCity() || n < 0 || n > MOST_HIRE) {
            return NO_SUCH;
        }
        choice.takePersons(play);
        return choice.richest(n);
    }

    // ---- who wishes what was done

    public int suspects(int slot) {
        int state = deedRowState(slot);
        return state != 0 ? state : play.town.wishersOf(rows.bitsOf(slot));
    }

    public int watch(int slot) {
        int state = deedRowState(slot);
        if (state != 0) {
            return state;
        }
        int now = play.town.wishersOf(rows.bitsOf(slot));
        return play.town.tellingDeed(now);
    }

    public int leaves(int slot) {
        int state = deedRowState(slot);
        if (state != 0) {
            return state;
        }
        int now = play.town.wishersOf(rows.bitsOf(slot));
        int deed = play.town.tellingDeed(now);
        return deed == NONE ? Integer.bitCount(now) : play.town.worstOf(now, deed);
    }

    public int proof(int slot) {
        int state = deedRowState(slot);
        if (state != 0) {
            return state;
        }
        int all = rows.bitsOf(slot);
        int suspected = play.town.wishersOf(all);
        int fewest = Integer.bitCount(all);
        for (int set = 0; set < all; set++) {
            boolean proves = (set & ~all) == 0 && play.town.wishersOf(set) == suspected;
            if (proves && Integer.bitCount(set) < fewest) {
                fewest = Integer.bitCount(set);
            }
        }
        return fewest;
    }

    // ---- duels

    public int duel(int person, int other, int what) {
        if (!canDuel(person, other) || what < 0 || what > 1) {
            return NO_SUCH;
        }
        int mine = bonds().handOf(person);
        int theirs = bonds().handOf(other);
        int pairs = Integer.bitCount(mine) * Integer.bitCount(theirs);
        int wonPairs = play.town.pairsAbove(mine, theirs);
        int common = commonDivisor(pairs, wonPairs);
        if (common == 0) {
            return NO_SUCH;
        }
        return (what == 0 ? wonPairs : pairs) / common;
    }

    public int lay(int person, int other) {
        int card = lays(person, other);
        return card < 0 ? NO_LAY : play.town.sureOf(card, bonds().handOf(other));
    }

    public int lays(int person, int other) {
        if (!canDuel(person, other)) {
            return NO_SUCH;
        }
        return play.town.surestCard(bonds().handOf(person), bonds().handOf(other));
    }

    public int reply(int person, int other) {
        int card = lays(person, other);
        if (card < 0) {
            return NO_SUCH;
        }
        return play.town.hardestAgainst(card, bonds().handOf(other));
    }

    // ---- peace

    public int firm(int set) {
        int leaving = leave(set);
        if (leaving == NO_SUCH) {
            return NO_SUCH;
        }
        return leaving == 0 ? 1 : 0;
    }

    public int firms() {
        if (!hasCity()) {
            return NO_SUCH;
        }
        peace.take(play);
        int sum = 0;
        for (int set = 0; set <= bonds().everyone(); set++) {
            if (peace.losersOf(set) == 0) {
                sum++;
            }
        }
        return sum;
    }

    public int firmest() {
        if (!hasCity()) {
            return NO_SUCH;
        }
        peace.take(play);
        int best = 0;
        for (int set = 1; set <= bonds().everyone(); set++) {
            if (Integer.bitCount(set) > Integer.bitCount(best) && peace.losersOf(set) == 0) {
                best = set;
            }
        }
        return best;
    }

    public int wins(int set, int person) {
        if (!hasCity() || !isPersonSet(set) || !isPerson(person) || bitOf(set, person) == 0) {
            return NO_PEACE;
        }
        peace.take(play);
        return peace.gainOf(set, person);
    }

    public int leave(int set) {
        if (!hasCity() || !isPersonSet(set)) {
            return NO_SUCH;
        }
        peace.take(play);
        return peace.losersOf(set);
    }

    // ---- ransoms and power

    public int ransom(int person, int other) {
        int card = ransomed(person, other);
        return card < 0 ? card : play.town.worthOf(card);
    }

    public int ransomed(int person, int other) {
        if (!isPerson(person) || !isPerson(other)) {
            return NO_SUCH;
        }
        return play.cheapestBetween(person, other);
    }

    public int power(int person) {
        return isPerson(person) ? play.town.powerIn(bonds(), person) : NO_SUCH;
    }

    public int mighty() {
        if (!hasCity()) {
            return NO_SUCH;
        }
        int best = NONE;
        int most = NONE;
        for (int person = 0; person < bonds().persons; person++) {
            int has = play.town.powerIn(bonds(), person);
            if (has > most) {
                best = person;
                most = has;
            }
        }
        return best;
    }

    public int covet(int person) {
        if (!isPerson(person)) {
            return NO_SUCH;
        }
        int best = NONE;
        int most = play.town.powerIn(bonds(), person);
        fancy.copyOf(bonds());
        for (int card = 0; card < fancy.persons; card++) {
            fancy.put(card, person);
            int has = play.town.powerIn(fancy, person);
            if (has > most) {
                best = card;
                most = has;
            }
            fancy.put(card, bonds().holderOf(card));
        }
        return best;
    }

    // ---- rows that are judged

    public int judge(int slot) {
        int state = askingRowState(slot);
        return state != 0 ? state : runTrial(slot);
    }

    public int freed(int slot) {
        int state = askingRowState(slot);
        if (state != 0) {
            return state;
        }
        runTrial(slot);
        return trial.bonds.freeOnes();
    }

    // ---- cards dealt by the wind

    public int drawn(int seed, int card) {
        if (!isSeed(seed) || !isPerson(card)) {
            return NO_SUCH;
        }
        square.deal(seed, bonds().persons);
        return square.dealt.holderOf(card);
    }

    public int luck(int seed, int n, int person) {
        if (!isSeed(seed) || !isSquareNumber(n) || !isPerson(person)) {
            return NO_SUCH;
        }
        int sum = 0;
        for (int i = 0; i < n; i++) {
            square.deal(seed + i, bonds().persons);
            if (square.dealt.holderOf(person) == person) {
                sum++;
            }
        }
        return sum;
    }

    public int winds(int seed, int n) {
        if (!hasCity() || !isSeed(seed) || !isSquareNumber(n)) {
            return NO_SUCH;
        }
        int sum = 0;
        for (int i = 0; i < n; i++) {
            square.deal(seed + i, bonds().persons);
            sum += square.dealt.ringCount();
        }
        return sum;
    }

    // ---- changes ahead of any act, counts, images

    public int rate(int person, int n) {
        if (!isPerson(person) || n < 1 || n > MOST_WORTH) {
            return NO_SUCH;
        }
        if (play.acts > 0) {
            return CANNOT;
        }
        int was = play.town.worthOf(person);
        play.town.worths[person] = n;
        return was;
    }

    public int forge(int card, int is) {
        if (!isPerson(card) || is < 0 || is > 1) {
            return NO_SUCH;
        }
        if (play.acts > 0) {
            return CANNOT;
        }
        int was = play.town.forgedOf(card);
        play.town.forged[card] = is;
        return was;
    }

    public int count(int what) {
        switch (what) {
            case 0:
                return bonds().persons;
            case 1:
                return play.town.wear;
            case 2:
                return bonds().persons - Integer.bitCount(bonds().freeOnes());
            case 3:
                return play.town.forgedCards();
            case 4:
                return play.acts;
            case 5:
                return play.town.lines;
            case 6:
                return tape.size;
            case 7:
                return rows.kept();
            default:
                return NONE;
        }
    }

    public int image(int k) {
        if (k < 0 || k >= IMAGES) {
            return NO_SUCH;
        }
        images[k].copyOf(play);
        kept[k] = true;
        return 0;
    }

    public int back(int k) {
        if (k < 0 || k >= IMAGES) {
            return NO_SUCH;
        }
        if (!kept[k]) {
            return NOTHING;
        }
        play.copyOf(images[k]);
        return 0;
    }

    // ---- slots

    public int row(int slot, int width, int n) {
        if (!rows.isSlot(slot) || width < 0 || width > 3 || n > ROW_NUMBERS) {
            return NO_SUCH;
        }
        if (n < 0) {
            return BELOW_ZERO;
        }
        rows.make(slot, width, n);
        return 0;
    }

    public int write(int slot, int i, long v) {
        if (!rows.isSlot(slot)) {
            return NO_SUCH;
        }
        if (!rows.isKept(slot)) {
            return NOTHING;
        }
        if (!rows.hasPlaces(slot, i, 1)) {
            return NO_NUMBER;
        }
        rows.set(slot, i, v);
        return 0;
    }

    public int paste(int slot, int i, int to, int k, int n) {
        if (!rows.isSlot(slot) || !rows.isSlot(to)) {
            return NO_SUCH;
        }
        if (!rows.isKept(slot) || !rows.isKept(to)) {
            return NOTHING;
        }
        if (rows.widths[slot] != rows.widths[to]) {
            return UNLIKE_WIDTHS;
        }
        if (!rows.hasPlaces(slot, i, n) || !rows.hasPlaces(to, k, n)) {
            return NO_NUMBER;
        }
        System.arraycopy(rows.numbers[slot], i, rows.numbers[to], k, n);
        return 0;
    }

    // ---- what the calls share

    private Bonds bonds() {
        return play.hands.bonds;
    }

    private boolean hasCity() {
        return play.town.lines > 0;
    }

    private boolean isPerson(int person) {
        return play.hands.bonds.has(person);
    }

    private boolean isPersonSet(int set) {
        return set >= 0 && set <= bonds().everyone();
    }

    private boolean canDuel(int person, int other) {
        return isPerson(person) && isPerson(other) && person != other
            && bonds().handOf(person) != 0 && bonds().handOf(other) != 0;
    }

    private int slotState(int slot) {
        if (!rows.isSlot(slot) || !hasCity()) {
            return NO_SUCH;
        }
        return rows.isKept(slot) ? 0 : NOTHING;
    }

    private int deedRowState(int slot) {
        int state = slotState(slot);
        if (state != 0) {
            return state;
        }
        for (int i = 0; i < rows.sizeOf(slot); i++) {
            long number = rows.get(slot, i);
            if (number < 0 || number >= DEED_KINDS) {
                return NO_SUCH;
            }
        }
        return 0;
    }

    private int askingRowState(int slot) {
        int state = slotState(slot);
        if (state != 0) {
            return state;
        }
        if (rows.sizeOf(slot) % 3 != 0) {
            return NO_SUCH;
        }
        for (int i = 0; i < rows.sizeOf(slot); i += 3) {
            if (!rows.isDayEnd(slot, i) && !isAsking(slot, i)) {
                return NO_SUCH;
            }
        }
        return 0;
    }

    private boolean isAsking(int slot, int i) {
        long persons = bonds().persons;
        long person = rows.get(slot, i);
        long other = rows.get(slot, i + 1);
        long deed = rows.get(slot, i + 2);
        return person >= 0 && person < persons && other >= 0 && other < persons
            && deed >= 0 && deed < DEED_KINDS;
    }

    /** Leaves the trial as it is behind the askings that can be; only for rows whose state is 0. */
    private int runTrial(int slot) {
        trial.begin();
        for (int i = 0; i < rows.sizeOf(slot); i += 3) {
            if (rows.isDayEnd(slot, i)) {
                trial.endDay();
            } else {
                int person = (int) rows.get(slot, i);
                int other = (int) rows.get(slot, i + 1);
                int deed = (int) rows.get(slot, i + 2);
                if (trial.refusal(person, other, deed) != 0) {
                    return i / 3;
                }
                trial.wearCard(other);
            }
        }
        return rows.sizeOf(slot) / 3;
    }

    private static boolean isDeed(int deed) {
        return deed >= 0 && deed < DEED_KINDS;
    }

    private static boolean isDeedSet(int deeds) {
        return deeds >= 0 && deeds < DEED_SETS;
    }

    private static boolean isSeed(int seed) {
        return seed >= 0 && seed <= MOST_SEED;
    }

    private static boolean isSquareNumber(int n) {
        return n >= 1 && n <= MOST_SQUARES;
    }

    private static int bitOf(int set, int index) {
        return (set >> index) & 1;
    }

    private static int commonDivisor(int one, int two) {
        int large = one;
        int small = two;
        for (int step = 0; step < 64 && small != 0; step++) {
            int rest = large % small;
            large = small;
            small = rest;
        }
        return large;
    }

    /** The bytes that were fed and not yet read. */
    private static final class Tape {
        final byte[] bytes = new byte[TAPE_BYTES];
        int size;

        boolean hasRoomFor(int more) {
            return size + more <= TAPE_BYTES;
        }

        void add(int number) {
            if (!hasRoomFor(4)) {
                return;
            }
            for (int shift = 24; shift >= 0; shift -= 8) {
                bytes[size] = (byte) (number >>> shift);
                size++;
            }
        }

        boolean cutTo(int n) {
            if (n < 0 || n > size) {
                return false;
            }
            size = n;
            return true;
        }

        /** NONE behind the last byte. */
        int at(int place) {
            return place >= 0 && place < size ? bytes[place] & 255 : NONE;
        }
    }

    /** Reads the tape into a draft; once something is wrong, all further reading does nothing. */
    private static final class Reader {
        static final int END = 0;
        static final int WORD = 1;
        static final int NUMBER = 2;
        static final int SIGN = 3;
        static final int NO_TOKEN = 4;
        static final int BAD_TOKEN = 1;
        static final int BAD_NUMBER = 2;
        static final int NINTH_PERSON = 3;
        /** Above every bound, and small enough that ten times it is still an int. */
        static final int HUGE = 100000;

        final Tape tape;
        final Town draft = new Town();
        int wrong;
        int wrongPlace = NONE;
        private int kind;
        private int place;
        private int next;
        private int value;

        Reader(Tape tape) {
            this.tape = tape;
        }

        boolean readTape() {
            draft.clear();
            wrong = 0;
            wrongPlace = NONE;
            next = 0;
            step();
            for (int i = 0; i < TAPE_BYTES && kind != END && wrong == 0; i++) {
                if (draft.lines == 0) {
                    readCityLine();
                } else if (isWord("person")) {
                    readPersonLine();
                } else if (isWord("card")) {
                    readCardLine();
                } else {
                    fail(BAD_TOKEN);
                }
                takeSign();
            }
            return wrong == 0;
        }

        private void readCityLine() {
            takeWord("city");
            takeWord("wear");
            draft.wear = takeNumber(1, MOST_WEAR);
        }

        private void readPersonLine() {
            if (draft.bonds.persons >= MOST_PERSONS) {
                fail(NINTH_PERSON);
                return;
            }
            takeWord("person");
            takeWord("worth");
            int worth = takeNumber(1, MOST_WORTH);
            int does = takeDeeds("does");
            int wishes = takeDeeds("wishes");
            draft.addPerson(worth, does, wishes);
        }

        private void readCardLine() {
            takeWord("card");
            if (wrong == 0 && kind == NUMBER && draft.bonds.holderOf(value) != NONE) {
                fail(BAD_NUMBER);
            }
            int last = draft.bonds.persons - 1;
            int card = takeNumber(0, last);
            takeWord("to");
            int holder = takeNumber(0, last);
            if (wrong != 0 || !draft.bonds.has(card)) {
                return;
            }
            draft.bonds.put(card, holder);
            if (isWord("forged")) {
                step();
                draft.forged[card] = 1;
            }
        }

        private int takeDeeds(String word) {
            if (wrong != 0 || !isWord(word)) {
                return 0;
            }
            step();
            int set = 1 << takeNumber(0, DEED_KINDS - 1);
            for (int i = 0; i < TAPE_BYTES && wrong == 0 && kind == NUMBER; i++) {
                set |= 1 << takeNumber(0, DEED_KINDS - 1);
            }
            return set;
        }

        private void takeSign() {
            if (wrong == 0 && kind != SIGN) {
                fail(BAD_TOKEN);
            }
            if (wrong == 0) {
                draft.lines++;
                step();
            }
        }

        private void takeWord(String word) {
            if (wrong != 0) {
                return;
            }
            if (isWord(word)) {
                step();
            } else {
                fail(BAD_TOKEN);
            }
        }

        private int takeNumber(int low, int high) {
            if (wrong != 0) {
                return 0;
            }
            if (kind != NUMBER) {
                fail(BAD_TOKEN);
                return 0;
            }
            if (value < low || value > high) {
                fail(BAD_NUMBER);
                return 0;
            }
            int taken = value;
            step();
            return taken;
        }

        private void fail(int what) {
            if (wrong == 0) {
                wrong = what;
                wrongPlace = place;
            }
        }

        private boolean isWord(String word) {
            if (kind != WORD || next - place != word.length()) {
                return false;
            }
            for (int i = 0; i < word.length(); i++) {
                if (tape.at(place + i) != word.charAt(i)) {
                    return false;
                }
            }
            return true;
        }

        private void step() {
            place = next;
            while (place < tape.size && isBlank(tape.at(place))) {
                place++;
            }
            next = place;
            value = 0;
            int sign = tape.at(place);
            if (sign == NONE) {
                kind = END;
            } else if (isLetter(sign)) {
                kind = WORD;
                while (next < tape.size && isLetter(tape.at(next))) {
                    next++;
                }
            } else if (isDigit(sign)) {
                kind = NUMBER;
                while (next < tape.size && isDigit(tape.at(next))) {
                    value = Math.min(HUGE, value * 10 + tape.at(next) - '0');
                    next++;
                }
            } else {
                kind = sign == ';' ? SIGN : NO_TOKEN;
                next++;
            }
        }

        private static boolean isBlank(int sign) {
            return sign == 32 || sign == 10;
        }

        private static boolean isLetter(int sign) {
            return sign >= 'a' && sign <= 'z';
        }

        private static boolean isDigit(int sign) {
            return sign >= '0' && sign <= '9';
        }
    }

    /** Who holds whose card. */
    private static final class Bonds {
        final int[] holders = new int[MOST_PERSONS];
        int persons;

        boolean has(int person) {
            return person >= 0 && person < persons && person < MOST_PERSONS;
        }

        int holderOf(int card) {
            return has(card) ? holders[card] : NONE;
        }

        void put(int card, int holder) {
            if (has(card)) {
                holders[card] = holder;
            }
        }

        void copyOf(Bonds other) {
            persons = other.persons;
            System.arraycopy(other.holders, 0, holders, 0, MOST_PERSONS);
        }

        int everyone() {
            return (1 << persons) - 1;
        }

        int handOf(int person) {
            int set = 0;
            for (int card = 0; card < persons; card++) {
                if (holderOf(card) == person) {
                    set |= 1 << card;
                }
            }
            return set;
        }

        int freeOnes() {
            return handOf(NONE);
        }

        /** How many askings lead from a person to another one; NONE: he is not under him. */
        int stepsTo(int person, int other) {
            int at = other;
            for (int steps = 1; steps <= MOST_PERSONS && at != NONE; steps++) {
                at = holderOf(at);
                if (at == person) {
                    return steps;
                }
            }
            return NONE;
        }

        int climb(int person, int steps) {
            int at = person;
            for (int i = 0; i < steps && at != NONE; i++) {
                at = holderOf(at);
            }
            return at;
        }

        int below(int person) {
            int set = 0;
            for (int other = 0; other < persons; other++) {
                if (stepsTo(person, other) != NONE) {
                    set |= 1 << other;
                }
            }
            return set;
        }

        int topOf(int person) {
            int at = person;
            for (int i = 0; i <= MOST_PERSONS; i++) {
                int holder = holderOf(at);
                if (holder == NONE) {
                    return at;
                }
                at = holder;
            }
            return NONE;
        }

        int ringOf(int person) {
            return Math.max(0, stepsTo(person, person));
        }

        int ringCount() {
            int sum = 0;
            for (int person = 0; person < persons; person++) {
                if (isLeastOfRing(person)) {
                    sum++;
                }
            }
            return sum;
        }

        private boolean isLeastOfRing(int person) {
            int size = ringOf(person);
            int at = person;
            for (int i = 1; i < size; i++) {
                at = holderOf(at);
                if (at < person) {
                    return false;
                }
            }
            return size > 0;
        }

        /** The least one of a person's ring who is above him by number; NONE: there is none. */
        int nextOfRing(int person) {
            for (int other = person + 1; other < persons; other++) {
                if (stepsTo(person, other) != NONE && stepsTo(other, person) != NONE) {
                    return other;
                }
            }
            return NONE;
        }

        boolean isOneEach() {
            for (int person = 0; person < persons; person++) {
                if (Integer.bitCount(handOf(person)) != 1) {
                    return false;
                }
            }
            return true;
        }
    }

    /** A city as it was told, rated and forged; with no lines there is none. */
    private static final class Town {
        final Bonds bonds = new Bonds();
        final int[] worths = new int[MOST_PERSONS];
        final int[] does = new int[MOST_PERSONS];
        final int[] wishes = new int[MOST_PERSONS];
        final int[] forged = new int[MOST_PERSONS];
        int lines;
        int wear;

        void clear() {
            bonds.persons = 0;
            lines = 0;
            wear = 0;
        }

        void copyOf(Town other) {
            bonds.copyOf(other.bonds);
            System.arraycopy(other.worths, 0, worths, 0, MOST_PERSONS);
            System.arraycopy(other.does, 0, does, 0, MOST_PERSONS);
            System.arraycopy(other.wishes, 0, wishes, 0, MOST_PERSONS);
            System.arraycopy(other.forged, 0, forged, 0, MOST_PERSONS);
            lines = other.lines;
            wear = other.wear;
        }

        void addPerson(int worth, int doesDeeds, int wishesDeeds) {
            int person = bonds.persons;
            if (person >= MOST_PERSONS) {
                return;
            }
            bonds.persons++;
            bonds.put(person, NONE);
            worths[person] = worth;
            does[person] = doesDeeds;
            wishes[person] = wishesDeeds;
            forged[person] = 0;
        }

        int worthOf(int person) {
            return bonds.has(person) ? worths[person] : 0;
        }

        int deedsOf(int person) {
            return bonds.has(person) ? does[person] : 0;
        }

        int wishesOf(int person) {
            return bonds.has(person) ? wishes[person] : 0;
        }

        int forgedOf(int card) {
            return bonds.has(card) ? forged[card] : 0;
        }

        int limitOf(int card) {
            return bonds.has(card) && forged[card] == 0 ? wear : 1;
        }

        int forgedCards() {
            int sum = 0;
            for (int card = 0; card < bonds.persons; card++) {
                sum += forgedOf(card);
            }
            return sum;
        }

        int deedsOfAll(int set) {
            int all = 0;
            for (int person = 0; person < bonds.persons; person++) {
                if (bitOf(set, person) == 1) {
                    all |= deedsOf(person);
                }
            }
            return all;
        }

        int worthOfAll(int set) {
            int sum = 0;
            for (int person = 0; person < bonds.persons; person++) {
                if (bitOf(set, person) == 1) {
                    sum += worthOf(person);
                }
            }
            return sum;
        }

        int powerIn(Bonds held, int person) {
            return Integer.bitCount(deedsOfAll(held.below(person)));
        }

        int wishersOf(int deeds) {
            int set = 0;
            for (int person = 0; person < bonds.persons; person++) {
                if ((deeds & ~wishesOf(person)) == 0) {
                    set |= 1 << person;
                }
            }
            return set;
        }

        /** How many of a set are left at worst, once it is known whether they wish a deed. */
        int worstOf(int set, int deed) {
            int wishing = Integer.bitCount(set & wishersOf(1 << deed));
            return Math.max(wishing, Integer.bitCount(set) - wishing);
        }

        int tellingDeed(int set) {
            int best = NONE;
            int fewest = Integer.bitCount(set);
            for (int deed = 0; deed < DEED_KINDS; deed++) {
                int left = worstOf(set, deed);
                if (left < fewest) {
                    best = deed;
                    fewest = left;
                }
            }
            return best;
        }

        int pairsAbove(int mine, int theirs) {
            int sum = 0;
            for (int card = 0; card < bonds.persons; card++) {
                for (int other = 0; other < bonds.persons; other++) {
                    boolean pair = bitOf(mine, card) == 1 && bitOf(theirs, other) == 1;
                    if (pair && worthOf(card) > worthOf(other)) {
                        sum++;
                    }
                }
            }
            return sum;
        }

        int wonBy(int card, int other) {
            if (worthOf(card) == worthOf(other)) {
                return 0;
            }
            return worthOf(card) > worthOf(other) ? worthOf(other) : -worthOf(card);
        }

        /** What a card wins at least, whatever of a hand is laid against it. */
        int sureOf(int card, int hand) {
            int least = MOST_WORTH;
            for (int other = 0; other < bonds.persons; other++) {
                if (bitOf(hand, other) == 1) {
                    least = Math.min(least, wonBy(card, other));
                }
            }
            return least;
        }

        int hardestAgainst(int card, int hand) {
            int least = sureOf(card, hand);
            for (int other = 0; other < bonds.persons; other++) {
                if (bitOf(hand, other) == 1 && wonBy(card, other) == least) {
                    return other;
                }
            }
            return NONE;
        }

        int surestCard(int mine, int theirs) {
            int best = NONE;
            int most = 0;
            for (int card = 0; card < bonds.persons; card++) {
                if (bitOf(mine, card) == 1) {
                    int sure = sureOf(card, theirs);
                    if (best == NONE || sure > most) {
                        best = card;
                        most = sure;
                    }
                }
            }
            return best;
        }
    }

    /** What has become of a town's cards. */
    private static final class Hands {
        static final int NOT_HELD = 1;
        static final int ASKED_TODAY = 2;
        static final int NOT_HIS_DEED = 3;

        final Town town;
        final Bonds bonds = new Bonds();
        final int[] worn = new int[MOST_PERSONS];
        final int[] robbed = new int[MOST_PERSONS];
        int askedToday;
        int stolen;
        int today;
        int deedsDone;

        Hands(Town town) {
            this.town = town;
        }

        void begin() {
            bonds.copyOf(town.bonds);
            for (int card = 0; card < MOST_PERSONS; card++) {
                worn[card] = 0;
            }
            askedToday = 0;
            stolen = 0;
            today = 0;
            deedsDone = 0;
        }

        int leftOf(int card) {
            if (bonds.holderOf(card) == NONE) {
                return 0;
            }
            return town.limitOf(card) - worn[card];
        }

        int refusalToCome(int person, int other) {
            if (bonds.holderOf(other) != person) {
                return NOT_HELD;
            }
            return bitOf(askedToday, other) == 1 ? ASKED_TODAY : 0;
        }

        int refusal(int person, int other, int deed) {
            int reason = refusalToCome(person, other);
            if (reason != 0) {
                return reason;
            }
            return bitOf(town.deedsOf(other), deed) == 1 ? 0 : NOT_HIS_DEED;
        }

        void wearCard(int card) {
            if (!bonds.has(card)) {
                return;
            }
            askedToday |= 1 << card;
            worn[card]++;
            if (worn[card] >= town.limitOf(card)) {
                bonds.put(card, NONE);
            }
        }

        void changeHands(int card, int other) {
            int holder = bonds.holderOf(card);
            bonds.put(card, bonds.holderOf(other));
            bonds.put(other, holder);
        }

        void rob(int person, int card) {
            if (!bonds.has(card)) {
                return;
            }
            robbed[card] = bonds.holderOf(card);
            stolen |= 1 << card;
            bonds.put(card, person);
        }

        void endDay() {
            for (int card = 0; card < bonds.persons; card++) {
                // one that was worn out since has nobody to go back from
                if (bitOf(stolen, card) == 1 && bonds.holderOf(card) != NONE) {
                    bonds.put(card, robbed[card]);
                }
            }
            stolen = 0;
            askedToday = 0;
            today++;
        }
    }

    /** A town with the acts done in it; they are kept so that any of them can be taken back. */
    private static final class Play {
        static final int ASK = 0;
        static final int GIVE = 1;
        static final int SWAP = 2;
        static final int STEAL = 3;
        static final int DAY = 4;

        final Town town = new Town();
        final Hands hands = new Hands(town);
        final int[] log = new int[MOST_ACTS];
        int acts;

        void begin(Town told) {
            town.copyOf(told);
            replay(0);
        }

        void copyOf(Play other) {
            town.copyOf(other.town);
            System.arraycopy(other.log, 0, log, 0, MOST_ACTS);
            replay(other.acts);
        }

        boolean hasRoom() {
            return acts < MOST_ACTS;
        }

        void act(int kind, int a, int b, int c, int d) {
            if (acts < 0 || acts >= MOST_ACTS) {
                return;
            }
            log[acts] = kind | a << 3 | b << 6 | c << 9 | d << 12;
            perform(log[acts]);
            acts++;
        }

        void replay(int n) {
            hands.begin();
            for (int i = 0; i < n && i < MOST_ACTS; i++) {
                perform(log[i]);
            }
            acts = n;
        }

        private void perform(int act) {
            int a = (act >> 3) & 7;
            int b = (act >> 6) & 7;
            switch (act & 7) {
                case ASK:
                    hands.wearCard(b);
                    hands.deedsDone++;
                    break;
                case GIVE:
                    hands.bonds.put((act >> 9) & 7, (act >> 12) & 7);
                    hands.wearCard(b);
                    break;
                case SWAP:
                    hands.changeHands(a, b);
                    break;
                case STEAL:
                    hands.rob(a, b);
                    break;
                default:
                    hands.endDay();
                    break;
            }
        }

        int timeTo(int person, int other) {
            int steps = hands.bonds.stepsTo(person, other);
            if (steps == NONE) {
                return NONE;
            }
            int sum = steps;
            int at = other;
            for (int i = 0; i < steps; i++) {
                sum += town.forgedOf(at);
                at = hands.bonds.holderOf(at);
            }
            return sum;
        }

        int quickestDoer(int person, int deed) {
            int best = NONE;
            int least = 0;
            for (int other = 0; other < hands.bonds.persons; other++) {
                int needed = timeTo(person, other);
                boolean does = needed != NONE && bitOf(town.deedsOf(other), deed) == 1;
                if (does && (best == NONE || needed < least)) {
                    best = other;
                    least = needed;
                }
            }
            return best;
        }

        int cheapestBetween(int person, int other) {
            int steps = hands.bonds.stepsTo(person, other);
            if (steps == NONE) {
                return NONE;
            }
            int best = other;
            int at = other;
            for (int i = 1; i < steps; i++) {
                at = hands.bonds.holderOf(at);
                boolean alike = town.worthOf(at) == town.worthOf(best);
                if (town.worthOf(at) < town.worthOf(best) || (alike && at < best)) {
                    best = at;
                }
            }
            return best;
        }

        int askable(int holder) {
            return hands.bonds.handOf(holder) & ~hands.askedToday;
        }

        /**
         * The most persons of a set who can each do another one of the wishes. As many as the
         * fewest wishes and persons that touch each pair of who does what (Koenig), which needs
         * no search for the pairs themselves.
         */
        int mostWishes(int set, int wishes) {
            int fewest = Integer.bitCount(set);
            for (int touched = 0; touched < DEED_SETS && set != 0; touched++) {
                if ((touched & ~wishes) == 0) {
                    int rest = doersIn(set, wishes & ~touched);
                    fewest = Math.min(fewest, Integer.bitCount(touched) + rest);
                }
            }
            return fewest;
        }

        private int doersIn(int set, int deeds) {
            int sum = 0;
            for (int person = 0; person < hands.bonds.persons; person++) {
                if (bitOf(set, person) == 1 && (town.deedsOf(person) & deeds) != 0) {
                    sum++;
                }
            }
            return sum;
        }

        /** Only those of the same hand compete for wishes, so the others need not be looked at. */
        int workOf(int person) {
            int holder = hands.bonds.holderOf(person);
            int set = holder == NONE ? 0 : askable(holder);
            int wishes = town.wishesOf(holder);
            for (int other = 0; other <= person; other++) {
                if (bitOf(set, other) == 1) {
                    set &= ~(1 << other);
                    int deed = leastWork(other, set, wishes);
                    if (other == person) {
                        return deed;
                    }
                    wishes &= deed == NONE ? wishes : ~(1 << deed);
                }
            }
            return NONE;
        }

        private int leastWork(int person, int others, int wishes) {
            int most = mostWishes(others | 1 << person, wishes);
            for (int deed = 0; deed < DEED_KINDS; deed++) {
                boolean wished = bitOf(town.deedsOf(person) & wishes, deed) == 1;
                if (wished && mostWishes(others, wishes & ~(1 << deed)) + 1 == most) {
                    return deed;
                }
            }
            return NONE;
        }
    }

    /** Looks through all sets of persons; each set is reckoned from the one without its last person. */
    private static final class Choice {
        private final int[] costs = new int[PERSON_SETS];
        private final int[] does = new int[PERSON_SETS];
        private int sets = 1;

        void takeHands(Play play) {
            sets = 1;
            for (int person = 0; person < play.town.bonds.persons; person++) {
                join(1, play.town.deedsOfAll(play.hands.bonds.handOf(person)));
            }
        }

        void takePersons(Play play) {
            sets = 1;
            for (int person = 0; person < play.town.bonds.persons; person++) {
                join(play.town.worthOf(person), play.town.deedsOf(person));
            }
        }

        private void join(int cost, int deeds) {
            if (sets + sets > PERSON_SETS) {
                return;
            }
            for (int set = 0; set < sets; set++) {
                costs[set + sets] = costs[set] + cost;
                does[set + sets] = does[set] | deeds;
            }
            sets += sets;
        }

        int costOf(int set) {
            return set >= 0 && set < sets ? costs[set] : 0;
        }

        int deedsOf(int set) {
            return set >= 0 && set < sets ? does[set] : 0;
        }

        /** The least set of the least cost that does all deeds; NONE: there is none. */
        int cheapest(int deeds) {
            int best = NONE;
            for (int set = 0; set < sets; set++) {
                boolean doesAll = (deeds & ~does[set]) == 0;
                if (doesAll && (best == NONE || costs[set] < costs[best])) {
                    best = set;
                }
            }
            return best;
        }

        /** The least set of most deeds that costs no more than n. */
        int richest(int n) {
            int best = 0;
            int most = 0;
            for (int set = 0; set < sets; set++) {
                int done = Integer.bitCount(does[set]);
                if (done > most && costs[set] <= n) {
                    best = set;
                    most = done;
                }
            }
            return best;
        }
    }

    /** Who would win or lose what, if hands were laid down; reckoned once for all sets. */
    private static final class Peace {
        private final int[] worths = new int[MOST_PERSONS];
        private final int[] losses = new int[MOST_PERSONS];
        private final int[] givers = new int[MOST_PERSONS];
        private int persons;

        void take(Play play) {
            persons = Math.min(play.town.bonds.persons, MOST_PERSONS);
            for (int person = 0; person < persons; person++) {
                int others = ~(1 << person);
                int holder = play.hands.bonds.holderOf(person);
                worths[person] = play.town.worthOf(person);
                losses[person] = play.town.worthOfAll(play.hands.bonds.handOf(person) & others);
                givers[person] = holder == NONE ? 0 : (1 << holder) & others;
            }
        }

        int gainOf(int set, int person) {
            if (person < 0 || person >= persons) {
                return 0;
            }
            int won = (set & givers[person]) != 0 ? worths[person] : 0;
            return won - losses[person];
        }

        int losersOf(int set) {
            int losing = 0;
            for (int person = 0; person < persons; person++) {
                if (bitOf(set, person) == 1 && gainOf(set, person) < 0) {
                    losing |= 1 << person;
                }
            }
            return losing;
        }
    }

    /** Cards dealt by draws, one to each. */
    private static final class Square {
        final Bonds dealt = new Bonds();
        private final int[] places = new int[MOST_PERSONS];
        private long x;

        void deal(int seed, int persons) {
            x = seed;
            dealt.persons = Math.min(persons, MOST_PERSONS);
            for (int place = 0; place < dealt.persons; place++) {
                places[place] = place;
            }
            for (int place = dealt.persons - 1; place > 0; place--) {
                int other = draw(place + 1);
                int card = places[place];
                places[place] = places[other];
                places[other] = card;
            }
            for (int place = 0; place < dealt.persons; place++) {
                dealt.put(places[place], place);
            }
        }

        /** 0 .. n - 1; only for n above 0. */
        private int draw(int n) {
            x = (1103515245L * x + 12345L) & 2147483647L;
            return n > 0 ? (int) (x / 65536 % n) : 0;
        }
    }

    /** The slots' rows of numbers. */
    private static final class Rows {
        final long[][] numbers = new long[SLOTS][ROW_NUMBERS];
        final int[] widths = new int[SLOTS];
        private final int[] sizes = new int[SLOTS];
        private int keptSlots;

        boolean isSlot(int slot) {
            return slot >= 0 && slot < SLOTS;
        }

        boolean isKept(int slot) {
            return isSlot(slot) && bitOf(keptSlots, slot) == 1;
        }

        int kept() {
            return Integer.bitCount(keptSlots);
        }

        int sizeOf(int slot) {
            return isSlot(slot) ? sizes[slot] : 0;
        }

        void make(int slot, int width, int n) {
            if (!isSlot(slot)) {
                return;
            }
            keptSlots |= 1 << slot;
            widths[slot] = width;
            sizes[slot] = n;
            for (int i = 0; i < ROW_NUMBERS; i++) {
                numbers[slot][i] = 0;
            }
        }

        boolean hasPlaces(int slot, int from, int n) {
            return from >= 0 && n >= 0 && n <= sizeOf(slot) && from <= sizeOf(slot) - n;
        }

        long get(int slot, int i) {
            return hasPlaces(slot, i, 1) ? numbers[slot][i] : 0;
        }

        void set(int slot, int i, long v) {
            if (hasPlaces(slot, i, 1)) {
                numbers[slot][i] = cut(v, widths[slot]);
            }
        }

        private static long cut(long v, int width) {
            switch (width) {
                case 0:
                    return (byte) v;
                case 1:
                    return (short) v;
                case 2:
                    return (int) v;
                default:
                    return v;
            }
        }

        /** Only for rows of deeds. */
        int bitsOf(int slot) {
            int set = 0;
            for (int i = 0; i < sizeOf(slot); i++) {
                set |= 1 << (int) get(slot, i);
            }
            return set;
        }

        boolean isDayEnd(int slot, int i) {
            return get(slot, i) == NONE && get(slot, i + 1) == NONE && get(slot, i + 2) == NONE;
        }
    }
}
