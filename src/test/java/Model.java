import java.util.ArrayList;
import java.util.Arrays;
import java.util.LinkedHashSet;
import java.util.List;
import java.util.Set;
import java.util.TreeSet;
import java.util.regex.Matcher;
import java.util.regex.Pattern;

/**
 * The document once more, written for plainness and apart from the class: sets as sets, every
 * choice by trying all, the past as a pile of whole states. ModelTest holds the two together.
 */
final class Model {
    private static final class Person {
        int worth;
        Set<Integer> does = new TreeSet<>();
        Set<Integer> wishes = new TreeSet<>();
        Integer holder;
        boolean forged;
        int worn;
        boolean asked;
        Integer robbed;

        Person twin() {
            Person p = new Person();
            p.worth = worth;
            p.does = does;
            p.wishes = wishes;
            p.holder = holder;
            p.forged = forged;
            p.worn = worn;
            p.asked = asked;
            p.robbed = robbed;
            return p;
        }
    }

    private static final class World {
        int wear;
        int lines;
        int day;
        int done;
        List<Person> all = new ArrayList<>();

        World twin() {
            World w = new World();
            w.wear = wear;
            w.lines = lines;
            w.day = day;
            w.done = done;
            for (Person p : all) {
                w.all.add(p.twin());
            }
            return w;
        }
    }

    private String tape = "";
    private List<World> past = new ArrayList<>(); // the last one is now
    private int faultIs;
    private int faultPlace = -1;
    private final List<List<World>> images = new ArrayList<>(Arrays.asList(null, null, null));
    private final long[][] rows = new long[4][];
    private final int[] widths = new int[4];

    private World w() {
        return past.get(past.size() - 1);
    }

    private boolean none() {
        return past.isEmpty();
    }

    private int n() {
        return none() ? 0 : w().all.size();
    }

    private Person p(int i) {
        return w().all.get(i);
    }

    private boolean no(int person) {
        return person < 0 || person >= n();
    }

    private boolean noDeed(int deed) {
        return deed < 0 || deed > 5;
    }

    private static int bits(Iterable<Integer> set) {
        int b = 0;
        for (int i : set) {
            b |= 1 << i;
        }
        return b;
    }

    private static Set<Integer> set(int bits) {
        Set<Integer> s = new TreeSet<>();
        for (int i = 0; i < 31; i++) {
            if ((bits >> i & 1) == 1) {
                s.add(i);
            }
        }
        return s;
    }

    int feed(int a, int b, int c, int d, int e) {
        if (tape.length() + 20 > 900) {
            return -1;
        }
        for (int v : new int[] {a, b, c, d, e}) {
            tape += "" + (char) (v >>> 24) + (char) (v >>> 16 & 255) + (char) (v >>> 8 & 255) + (char) (v & 255);
        }
        return tape.length();
    }

    int end(int n) {
        if (n < 0 || n > tape.length()) {
            return -1;
        }
        tape = tape.substring(0, n);
        return n;
    }

    private static final class Wrong extends Exception {
        private static final long serialVersionUID = 1;
        final int what;
        final int where;

        Wrong(int what, int where) {
            this.what = what;
            this.where = where;
        }
    }

    private List<String> words;
    private List<Integer> places;
    private int at;

    private void lex() {
        words = new ArrayList<>();
        places = new ArrayList<>();
        Matcher m = Pattern.compile("[a-z]+|[0-9]+|[^ \n]").matcher(tape);
        while (m.find()) {
            words.add(m.group());
            places.add(m.start());
        }
        words.add("");
        places.add(tape.length());
        at = 0;
    }

    private void want(String word) throws Wrong {
        if (!words.get(at).equals(word)) {
            throw new Wrong(1, places.get(at));
        }
        at++;
    }

    private boolean isNumber() {
        return words.get(at).matches("[0-9]+");
    }

    private int wantNumber(int low, int high) throws Wrong {
        if (!isNumber()) {
            throw new Wrong(1, places.get(at));
        }
        java.math.BigInteger v = new java.math.BigInteger(words.get(at));
        if (v.compareTo(java.math.BigInteger.valueOf(low)) < 0 || v.compareTo(java.math.BigInteger.valueOf(high)) > 0) {
            throw new Wrong(2, places.get(at));
        }
        at++;
        return v.intValue();
    }

    private void wantDeeds(String word, Set<Integer> into) throws Wrong {
        if (words.get(at).equals(word)) {
            at++;
            do {
                into.add(wantNumber(0, 5));
            } while (isNumber());
        }
    }

    private World parse() throws Wrong {
        World x = new World();
        Set<Integer> told = new TreeSet<>();
        while (!words.get(at).isEmpty()) {
            String head = words.get(at);
            if (x.lines == 0) {
                want("city");
                want("wear");
                x.wear = wantNumber(1, 9);
            } else if (head.equals("person")) {
                if (x.all.size() == 8) {
                    throw new Wrong(3, places.get(at));
                }
                at++;
                Person q = new Person();
                want("worth");
                q.worth = wantNumber(1, 999);
                wantDeeds("does", q.does);
                wantDeeds("wishes", q.wishes);
                x.all.add(q);
            } else {
                want("card");
                int where = places.get(at);
                int card = wantNumber(0, x.all.size() - 1);
                if (!told.add(card)) {
                    throw new Wrong(2, where);
                }
                want("to");
                x.all.get(card).holder = wantNumber(0, x.all.size() - 1);
                if (words.get(at).equals("forged")) {
                    at++;
                    x.all.get(card).forged = true;
                }
            }
            want(";");
            x.lines++;
        }
        return x;
    }

    int city() {
        lex();
        try {
            World x = parse();
            faultIs = 0;
            faultPlace = -1;
            tape = "";
            past = new ArrayList<>();
            if (x.lines > 0) {
                past.add(x);
            }
            return x.lines;
        } catch (Wrong e) {
            faultIs = e.what;
            faultPlace = e.where;
            return -4;
        }
    }

    int fault(int what) {
        return what == 0 ? faultIs : what == 1 ? faultPlace : -1;
    }

    private Set<Integer> hand(World x, int person) {
        Set<Integer> s = new TreeSet<>();
        for (int i = 0; i < x.all.size(); i++) {
            if (x.all.get(i).holder != null && x.all.get(i).holder == person) {
                s.add(i);
            }
        }
        return s;
    }

    private Set<Integer> hand(int person) {
        return hand(w(), person);
    }

    private void dig(World x, int person, Set<Integer> found) {
        for (int q : hand(x, person)) {
            if (found.add(q)) {
                dig(x, q, found);
            }
        }
    }

    private Set<Integer> below(World x, int person) {
        Set<Integer> s = new TreeSet<>();
        dig(x, person, s);
        return s;
    }

    private int limit(Person q) {
        return q.forged ? 1 : w().wear;
    }

    int person(int person, int what) {
        if (no(person) || what < 0 || what > 7) {
            return -2;
        }
        Person q = p(person);
        return new int[] {q.worth, bits(q.does), q.holder == null ? -1 : q.holder, bits(hand(person)), bits(q.wishes),
            q.asked ? 1 : 0, q.forged ? 1 : 0, q.holder == null ? 0 : limit(q) - q.worn}[what];
    }

    int free() {
        if (none()) {
            return -2;
        }
        Set<Integer> s = new TreeSet<>();
        for (int i = 0; i < n(); i++) {
            if (p(i).holder == null) {
                s.add(i);
            }
        }
        return bits(s);
    }

    int under(int person) {
        return no(person) ? -2 : bits(below(w(), person));
    }

    /** The askings from a person down to another one, found from the top; null: there are none. */
    private List<Integer> way(int person, int other) {
        return way(person, person, other, 1);
    }

    private List<Integer> way(int start, int person, int other, int depth) {
        if (depth > n() || depth > 1 && person == start) {
            return null;
        }
        for (int q : hand(person)) {
            List<Integer> rest = q == other ? new ArrayList<>() : way(start, q, other, depth + 1);
            if (rest != null) {
                rest.add(0, q);
                return rest;
            }
        }
        return null;
    }

    int time(int person, int other) {
        if (no(person) || no(other)) {
            return -2;
        }
        List<Integer> way = way(person, other);
        if (way == null) {
            return -1;
        }
        int sum = 0;
        for (int q : way) {
            sum += p(q).forged ? 2 : 1;
        }
        return sum;
    }

    int top(int person) {
        if (no(person)) {
            return -2;
        }
        if (p(person).holder == null) {
            return person;
        }
        for (int i = 0; i < n(); i++) {
            if (p(i).holder == null && below(w(), i).contains(person)) {
                return i;
            }
        }
        return -1;
    }

    int ring(int person) {
        if (no(person)) {
            return -2;
        }
        List<Integer> way = way(person, person);
        return way == null ? 0 : way.size();
    }

    int rings() {
        if (none()) {
            return -2;
        }
        Set<Set<Integer>> found = new LinkedHashSet<>();
        for (int i = 0; i < n(); i++) {
            List<Integer> way = way(i, i);
            if (way != null) {
                found.add(new TreeSet<>(way));
            }
        }
        return found.size();
    }

    int chain(int person, int deed) {
        int d = doer(person, deed);
        return d < 0 ? d : time(person, d);
    }

    int doer(int person, int deed) {
        if (no(person) || noDeed(deed)) {
            return -2;
        }
        for (int t = 1; t <= 16; t++) {
            for (int i = 0; i < n(); i++) {
                if (time(person, i) == t && p(i).does.contains(deed)) {
                    return i;
                }
            }
        }
        return -1;
    }

    int asked(int person, int deed, int i) {
        int d = doer(person, deed);
        if (d < 0) {
            return d;
        }
        List<Integer> way = way(person, d);
        return i < 0 || i >= way.size() ? -1 : way.get(i);
    }

    int can(int person) {
        if (no(person)) {
            return -2;
        }
        Set<Integer> s = new TreeSet<>();
        for (int deed : p(person).wishes) {
            if (chain(person, deed) >= 0) {
                s.add(deed);
            }
        }
        return bits(s);
    }

    private int reason(int person, int other) {
        return !hand(person).contains(other) ? 1 : p(other).asked ? 2 : 0;
    }

    int why(int person, int other, int deed) {
        if (no(person) || no(other) || noDeed(deed)) {
            return -2;
        }
        int r = reason(person, other);
        return r != 0 ? r : p(other).does.contains(deed) ? 0 : 3;
    }

    private boolean full() {
        return past.size() == 41;
    }

    private void act() {
        past.add(w().twin());
    }

    private void wear(int other) {
        Person q = p(other);
        q.asked = true;
        q.worn++;
        if (q.worn == limit(q)) {
            q.holder = null;
        }
    }

    int ask(int person, int other, int deed) {
        int r = why(person, other, deed);
        if (r == -2) {
            return -2;
        }
        if (r != 0 || full()) {
            return -5;
        }
        act();
        wear(other);
        w().done++;
        return person(other, 7);
    }

    int give(int person, int other, int card, int to) {
        if (no(person) || no(other) || no(card) || no(to)) {
            return -2;
        }
        if (reason(person, other) != 0 || !hand(other).contains(card) || full()) {
            return -5;
        }
        act();
        p(card).holder = to;
        wear(other);
        return 0;
    }

    int swap(int card, int other) {
        if (no(card) || no(other) || card == other) {
            return -2;
        }
        Integer one = p(card).holder;
        Integer two = p(other).holder;
        if (one == null || two == null || one.equals(two) || full()) {
            return -5;
        }
        act();
        p(card).holder = two;
        p(other).holder = one;
        return 0;
    }

    int steal(int person, int card) {
        if (no(person) || no(card)) {
            return -2;
        }
        Integer had = p(card).holder;
        if (had == null || had == person || p(card).robbed != null || full()) {
            return -5;
        }
        act();
        p(card).robbed = had;
        p(card).holder = person;
        return had;
    }

    int day() {
        if (none()) {
            return -2;
        }
        if (full()) {
            return -5;
        }
        act();
        for (Person q : w().all) {
            if (q.robbed != null && q.holder != null) {
                q.holder = q.robbed;
            }
            q.robbed = null;
            q.asked = false;
        }
        return w().day++;
    }

    int undo() {
        if (none()) {
            return -2;
        }
        if (past.size() == 1) {
            return -5;
        }
        past.remove(past.size() - 1);
        return past.size() - 1;
    }

    int anew() {
        if (none()) {
            return -2;
        }
        int were = past.size() - 1;
        past = new ArrayList<>(past.subList(0, 1));
        return were;
    }

    int now(int what) {
        if (none() || what < 0 || what > 3) {
            return -2;
        }
        Set<Integer> asked = new TreeSet<>();
        Set<Integer> stolen = new TreeSet<>();
        for (int i = 0; i < n(); i++) {
            if (p(i).asked) {
                asked.add(i);
            }
            if (p(i).robbed != null) {
                stolen.add(i);
            }
        }
        return new int[] {w().day, bits(asked), bits(stolen), w().done}[what];
    }

    /** Selection: each wrong place costs one swap that sets it right. */
    private int swaps(Integer[] holders) {
        Integer[] h = holders.clone();
        int sum = 0;
        for (int i = 0; i < h.length; i++) {
            if (h[i] != i) {
                int j = Arrays.asList(h).indexOf(i);
                h[j] = h[i];
                h[i] = i;
                sum++;
            }
        }
        return sum;
    }

    private Integer[] squareNow() {
        Integer[] h = new Integer[n()];
        for (int i = 0; i < n(); i++) {
            if (hand(i).size() != 1) {
                return null;
            }
            h[i] = p(i).holder;
        }
        return h;
    }

    int own() {
        if (none()) {
            return -2;
        }
        Integer[] h = squareNow();
        return h == null ? -1 : swaps(h);
    }

    int first(int what) {
        if (none() || what < 0 || what > 1) {
            return -2;
        }
        Integer[] h = squareNow();
        if (h == null || swaps(h) == 0) {
            return -1;
        }
        for (int a = 0; a < n(); a++) {
            for (int b = a + 1; b < n(); b++) {
                Integer[] g = h.clone();
                g[a] = h[b];
                g[b] = h[a];
                if (swaps(g) == swaps(h) - 1) {
                    return what == 0 ? a : b;
                }
            }
        }
        throw new IllegalStateException();
    }

    /** The best row of deeds (6: none) from a person on: most done, then the first by person and deed. */
    private int[] bestWork(int person, Set<List<Integer>> used) {
        if (person == n()) {
            return new int[0];
        }
        int[] best = null;
        int most = -1;
        for (int deed = 0; deed <= 6; deed++) {
            Person q = p(person);
            boolean can = deed == 6 || q.holder != null && !q.asked && q.does.contains(deed)
                && p(q.holder).wishes.contains(deed) && !used.contains(List.of(q.holder, deed));
            if (!can) {
                continue;
            }
            Set<List<Integer>> more = new LinkedHashSet<>(used);
            if (deed < 6) {
                more.add(List.of(q.holder, deed));
            }
            int[] rest = bestWork(person + 1, more);
            int done = (deed < 6 ? 1 : 0) + doneIn(rest);
            if (done > most) {
                most = done;
                best = new int[rest.length + 1];
                best[0] = deed;
                System.arraycopy(rest, 0, best, 1, rest.length);
            }
        }
        return best;
    }

    private int doneIn(int[] row) {
        int sum = 0;
        for (int d : row) {
            sum += d < 6 ? 1 : 0;
        }
        return sum;
    }

    int work() {
        return none() ? -2 : doneIn(bestWork(0, new LinkedHashSet<>()));
    }

    int works(int person) {
        if (no(person)) {
            return -2;
        }
        int d = bestWork(0, new LinkedHashSet<>())[person];
        return d == 6 ? -1 : d;
    }

    private Set<Integer> doneBy(Set<Integer> persons) {
        Set<Integer> s = new TreeSet<>();
        for (int i : persons) {
            s.addAll(p(i).does);
        }
        return s;
    }

    private int worthOf(Set<Integer> persons) {
        int sum = 0;
        for (int i : persons) {
            sum += p(i).worth;
        }
        return sum;
    }

    int cover(int deeds) {
        int s = covers(deeds);
        return s < 0 ? s : set(s).size();
    }

    int covers(int deeds) {
        if (none() || deeds < 0 || deeds > 63) {
            return -2;
        }
        for (int size = 0; size <= n(); size++) {
            for (int s = 0; s < 1 << n(); s++) {
                Set<Integer> hands = new TreeSet<>();
                for (int i : set(s)) {
                    hands.addAll(hand(i));
                }
                if (set(s).size() == size && doneBy(hands).containsAll(set(deeds))) {
                    return s;
                }
            }
        }
        return -1;
    }

    int buy(int deeds) {
        int s = bought(deeds);
        return s < 0 ? s : worthOf(set(s));
    }

    int bought(int deeds) {
        if (none() || deeds < 0 || deeds > 63) {
            return -2;
        }
        int best = -1;
        for (int s = (1 << n()) - 1; s >= 0; s--) {
            if (doneBy(set(s)).containsAll(set(deeds)) && (best == -1 || worthOf(set(s)) <= worthOf(set(best)))) {
                best = s;
            }
        }
        return best;
    }

    int deeds(int n) {
        int s = hired(n);
        return s < 0 ? s : doneBy(set(s)).size();
    }

    int hired(int n) {
        if (none() || n < 0 || n > 2000) {
            return -2;
        }
        int best = 0;
        for (int s = (1 << n()) - 1; s >= 0; s--) {
            if (worthOf(set(s)) <= n && doneBy(set(s)).size() >= doneBy(set(best)).size()) {
                best = s;
            }
        }
        return best;
    }

    private int rowState(int slot) {
        return slot < 0 || slot > 3 || none() ? -2 : rows[slot] == null ? -6 : 0;
    }

    private int deedState(int slot) {
        int state = rowState(slot);
        if (state == 0) {
            for (long v : rows[slot]) {
                if (v < 0 || v > 5) {
                    return -2;
                }
            }
        }
        return state;
    }

    private Set<Integer> wishers(Set<Integer> deeds) {
        Set<Integer> s = new TreeSet<>();
        for (int i = 0; i < n(); i++) {
            if (p(i).wishes.containsAll(deeds)) {
                s.add(i);
            }
        }
        return s;
    }

    private Set<Integer> rowSet(int slot) {
        Set<Integer> s = new TreeSet<>();
        for (long v : rows[slot]) {
            s.add((int) v);
        }
        return s;
    }

    int suspects(int slot) {
        int state = deedState(slot);
        return state != 0 ? state : bits(wishers(rowSet(slot)));
    }

    private int[] watched(int slot) {
        Set<Integer> now = wishers(rowSet(slot));
        int[] best = {-1, now.size()};
        for (int deed = 5; deed >= 0; deed--) {
            int yes = 0;
            int not = 0;
            for (int i : now) {
                if (p(i).wishes.contains(deed)) {
                    yes++;
                } else {
                    not++;
                }
            }
            int worst = Math.max(yes, not);
            if (worst < now.size() && worst <= best[1]) {
                best = new int[] {deed, worst};
            }
        }
        return best;
    }

    int watch(int slot) {
        int state = deedState(slot);
        return state != 0 ? state : watched(slot)[0];
    }

    int leaves(int slot) {
        int state = deedState(slot);
        return state != 0 ? state : watched(slot)[1];
    }

    int proof(int slot) {
        int state = deedState(slot);
        if (state != 0) {
            return state;
        }
        Set<Integer> all = rowSet(slot);
        for (int size = 0; ; size++) {
            for (int s = 0; s < 64; s++) {
                if (set(s).size() == size && all.containsAll(set(s)) && wishers(set(s)).size() == wishers(all).size()) {
                    return size;
                }
            }
        }
    }

    private boolean noDuel(int person, int other) {
        return no(person) || no(other) || person == other || hand(person).isEmpty() || hand(other).isEmpty();
    }

    int duel(int person, int other, int what) {
        if (noDuel(person, other) || what < 0 || what > 1) {
            return -2;
        }
        int above = 0;
        int all = 0;
        for (int a : hand(person)) {
            for (int b : hand(other)) {
                all++;
                above += p(a).worth > p(b).worth ? 1 : 0;
            }
        }
        for (int d = all; d > 1; d--) {
            if (above % d == 0 && all % d == 0) {
                above /= d;
                all /= d;
            }
        }
        return what == 0 ? above : all;
    }

    private int won(int a, int b) {
        return Integer.compare(p(a).worth, p(b).worth) * Math.min(p(a).worth, p(b).worth);
    }

    private int sure(int a, int other) {
        int least = 10000;
        for (int b : hand(other)) {
            least = Math.min(least, won(a, b));
        }
        return least;
    }

    int lay(int person, int other) {
        if (noDuel(person, other)) {
            return -1000;
        }
        int most = -10000;
        for (int a : hand(person)) {
            most = Math.max(most, sure(a, other));
        }
        return most;
    }

    int lays(int person, int other) {
        if (noDuel(person, other)) {
            return -2;
        }
        for (int a : hand(person)) {
            if (sure(a, other) == lay(person, other)) {
                return a;
            }
        }
        throw new IllegalStateException();
    }

    int reply(int person, int other) {
        if (noDuel(person, other)) {
            return -2;
        }
        for (int b : hand(other)) {
            if (won(lays(person, other), b) == lay(person, other)) {
                return b;
            }
        }
        throw new IllegalStateException();
    }

    private boolean noSet(int set) {
        return none() || set < 0 || set >= 1 << n();
    }

    int wins(int set, int person) {
        if (noSet(set) || no(person) || !set(set).contains(person)) {
            return -10000;
        }
        int sum = 0;
        for (int i : set(set)) {
            if (i != person && hand(i).contains(person)) {
                sum += p(person).worth;
            }
        }
        for (int card : hand(person)) {
            sum -= card == person ? 0 : p(card).worth;
        }
        return sum;
    }

    int leave(int set) {
        if (noSet(set)) {
            return -2;
        }
        Set<Integer> s = new TreeSet<>();
        for (int i : set(set)) {
            if (wins(set, i) < 0) {
                s.add(i);
            }
        }
        return bits(s);
    }

    int firm(int set) {
        return noSet(set) ? -2 : leave(set) == 0 ? 1 : 0;
    }

    int firms() {
        if (none()) {
            return -2;
        }
        int sum = 0;
        for (int s = 0; s < 1 << n(); s++) {
            sum += firm(s);
        }
        return sum;
    }

    int firmest() {
        if (none()) {
            return -2;
        }
        for (int size = n(); ; size--) {
            for (int s = 0; s < 1 << n(); s++) {
                if (set(s).size() == size && firm(s) == 1) {
                    return s;
                }
            }
        }
    }

    int ransom(int person, int other) {
        int card = ransomed(person, other);
        return card < 0 ? card : p(card).worth;
    }

    int ransomed(int person, int other) {
        if (no(person) || no(other)) {
            return -2;
        }
        if (!below(w(), person).contains(other)) {
            return -1;
        }
        int best = -1;
        for (int card = 0; card < n(); card++) {
            World x = w().twin();
            x.all.get(card).holder = null;
            boolean ransoms = !below(x, person).contains(other);
            if (ransoms && (best == -1 || p(card).worth < p(best).worth)) {
                best = card;
            }
        }
        return best;
    }

    int power(int person) {
        return no(person) ? -2 : doneBy(below(w(), person)).size();
    }

    int mighty() {
        if (none()) {
            return -2;
        }
        int best = -1;
        for (int i = n() - 1; i >= 0; i--) {
            if (best == -1 || power(i) >= power(best)) {
                best = i;
            }
        }
        return best;
    }

    int covet(int person) {
        if (no(person)) {
            return -2;
        }
        int best = -1;
        int most = power(person);
        for (int card = 0; card < n(); card++) {
            World x = w().twin();
            x.all.get(card).holder = person;
            int has = doneBy(below(x, person)).size();
            if (has > most) {
                most = has;
                best = card;
            }
        }
        return best;
    }

    private int judgeState(int slot) {
        int state = rowState(slot);
        if (state != 0) {
            return state;
        }
        long[] r = rows[slot];
        if (r.length % 3 != 0) {
            return -2;
        }
        for (int i = 0; i < r.length; i += 3) {
            boolean dayEnds = r[i] == -1 && r[i + 1] == -1 && r[i + 2] == -1;
            boolean asks = r[i] >= 0 && r[i] < n() && r[i + 1] >= 0 && r[i + 1] < n() && r[i + 2] >= 0 && r[i + 2] < 6;
            if (!dayEnds && !asks) {
                return -2;
            }
        }
        return 0;
    }

    /** Plays the row by the ordinary acts in a model of its own. */
    private int[] judged(int slot) {
        Model m = new Model();
        m.past.add(past.get(0).twin());
        long[] r = rows[slot];
        int i = 0;
        for (; i < r.length; i += 3) {
            if (r[i] == -1) {
                m.day();
            } else if (m.ask((int) r[i], (int) r[i + 1], (int) r[i + 2]) < 0) {
                break;
            }
        }
        return new int[] {i / 3, m.free()};
    }

    int judge(int slot) {
        int state = judgeState(slot);
        return state != 0 ? state : judged(slot)[0];
    }

    int freed(int slot) {
        int state = judgeState(slot);
        return state != 0 ? state : judged(slot)[1];
    }

    /** By place: the card that lies there. */
    private List<Integer> square(long seed) {
        List<Integer> lie = new ArrayList<>();
        for (int i = 0; i < n(); i++) {
            lie.add(i);
        }
        long x = seed;
        for (int place = n() - 1; place >= 1; place--) {
            x = (1103515245L * x + 12345) % 2147483648L;
            int j = (int) (x / 65536 % (place + 1));
            java.util.Collections.swap(lie, place, j);
        }
        return lie;
    }

    private boolean noSeed(int seed) {
        return seed < 0 || seed > 2000000000;
    }

    int drawn(int seed, int card) {
        return noSeed(seed) || no(card) ? -2 : square(seed).indexOf(card);
    }

    int luck(int seed, int n, int person) {
        if (noSeed(seed) || n < 1 || n > 20 || no(person)) {
            return -2;
        }
        int sum = 0;
        for (long s = seed; s < (long) seed + n; s++) {
            sum += square(s).get(person) == person ? 1 : 0;
        }
        return sum;
    }

    int winds(int seed, int n) {
        if (noSeed(seed) || n < 1 || n > 20 || none()) {
            return -2;
        }
        int sum = 0;
        for (long s = seed; s < (long) seed + n; s++) {
            Integer[] h = square(s).toArray(new Integer[0]);
            sum += n() - swaps(h);
        }
        return sum;
    }

    int rate(int person, int n) {
        if (no(person) || n < 1 || n > 999) {
            return -2;
        }
        if (past.size() > 1) {
            return -5;
        }
        int was = p(person).worth;
        p(person).worth = n;
        return was;
    }

    int forge(int card, int is) {
        if (no(card) || is < 0 || is > 1) {
            return -2;
        }
        if (past.size() > 1) {
            return -5;
        }
        int was = p(card).forged ? 1 : 0;
        p(card).forged = is == 1;
        return was;
    }

    int count(int what) {
        int forged = 0;
        int held = 0;
        for (int i = 0; i < n(); i++) {
            forged += p(i).forged ? 1 : 0;
            held += p(i).holder != null ? 1 : 0;
        }
        int kept = 0;
        for (long[] r : rows) {
            kept += r != null ? 1 : 0;
        }
        int[] all = {n(), none() ? 0 : w().wear, held, forged, Math.max(0, past.size() - 1), none() ? 0 : w().lines,
            tape.length(), kept};
        return what < 0 || what > 7 ? -1 : all[what];
    }

    private static List<World> twins(List<World> worlds) {
        List<World> l = new ArrayList<>();
        for (World x : worlds) {
            l.add(x.twin());
        }
        return l;
    }

    int image(int k) {
        if (k < 0 || k > 2) {
            return -2;
        }
        images.set(k, twins(past));
        return 0;
    }

    int back(int k) {
        if (k < 0 || k > 2) {
            return -2;
        }
        if (images.get(k) == null) {
            return -6;
        }
        past = twins(images.get(k));
        return 0;
    }

    int row(int slot, int width, int n) {
        if (slot < 0 || slot > 3 || width < 0 || width > 3 || n > 60) {
            return -2;
        }
        if (n < 0) {
            return -3;
        }
        rows[slot] = new long[n];
        widths[slot] = width;
        return 0;
    }

    int write(int slot, int i, long v) {
        if (slot < 0 || slot > 3) {
            return -2;
        }
        if (rows[slot] == null) {
            return -6;
        }
        if (i < 0 || i >= rows[slot].length) {
            return -7;
        }
        int shift = 64 - (8 << widths[slot]);
        rows[slot][i] = v << shift >> shift;
        return 0;
    }

    int paste(int slot, int i, int to, int k, int n) {
        if (slot < 0 || slot > 3 || to < 0 || to > 3) {
            return -2;
        }
        if (rows[slot] == null || rows[to] == null) {
            return -6;
        }
        if (widths[slot] != widths[to]) {
            return -8;
        }
        if (i < 0 || k < 0 || n < 0 || (long) i + n > rows[slot].length || (long) k + n > rows[to].length) {
            return -7;
        }
        long[] were = rows[slot].clone();
        for (int j = 0; j < n; j++) {
            rows[to][k + j] = were[i + j];
        }
        return 0;
    }
}
