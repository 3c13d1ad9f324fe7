import java.lang.reflect.InvocationTargetException;
import java.lang.reflect.Method;
import java.lang.reflect.Modifier;
import java.util.ArrayList;
import java.util.Arrays;
import java.util.Comparator;
import java.util.List;
import java.util.Random;

/** Random runs of calls, the same ones on the class and on the model: the answers must agree. */
public final class ModelTest {
    private static final int RUNS = Integer.getInteger("runs", 600);
    private static final int CALLS = 512;

    private final Random random;
    private final CardHolder x = new CardHolder();
    private final Model model = new Model();
    private final List<Method> methods;
    private final List<String> story = new ArrayList<>();
    private int calls;

    private ModelTest(long seed, List<Method> methods) {
        random = new Random(seed);
        this.methods = methods;
    }

    public static void main(String[] args) throws ReflectiveOperationException {
        List<Method> methods = new ArrayList<>();
        for (Method m : CardHolder.class.getDeclaredMethods()) {
            if (Modifier.isPublic(m.getModifiers())) {
                methods.add(m);
            }
        }
        methods.sort(Comparator.comparing(Method::getName));
        if (methods.size() != 65) {
            System.out.println("the face has " + methods.size() + " methods, not 65");
            System.exit(1);
        }
        for (int run = 0; run < RUNS; run++) {
            if (!new ModelTest(run, methods).run()) {
                System.exit(1);
            }
        }
        System.out.println("ModelTest: " + RUNS + " runs agree with the model");
    }

    private boolean run() throws ReflectiveOperationException {
        if (random.nextInt(10) != 0 && !feed(random.nextInt(4) == 0 ? cityOfRings() : goodCity())) {
            return false;
        }
        while (calls < CALLS) {
            int dice = random.nextInt(100);
            boolean fine;
            if (dice == 0) {
                fine = feed(random.nextBoolean() ? goodCity() : cityOfRings());
            } else if (dice == 1) {
                fine = feed(spoil(goodCity())) && (random.nextInt(4) == 0 || call("end", 0));
            } else if (dice < 6) {
                fine = fillRow();
            } else if (dice < 40) {
                fine = lively();
            } else {
                Method m = methods.get(random.nextInt(methods.size()));
                fine = (m.getName().equals("city") && random.nextInt(8) != 0)
                    || (m.getName().equals("anew") && random.nextInt(4) != 0) || call(m.getName(), anyArgs(m));
            }
            if (!fine) {
                return false;
            }
        }
        return true;
    }

    private Object[] anyArgs(Method m) {
        Object[] args = new Object[m.getParameterCount()];
        for (int i = 0; i < args.length; i++) {
            long v = anyNumber(m.getName());
            args[i] = m.getParameterTypes()[i] == long.class ? (Object) v : (Object) (int) v;
        }
        return args;
    }

    private long anyNumber(String name) {
        int dice = random.nextInt(60);
        if (dice == 0) {
            return random.nextInt();
        }
        if (dice == 1) {
            int[] edges = {Integer.MIN_VALUE, Integer.MAX_VALUE, 2000000000, 2000000001, 2000, 2001, 63, 64, 60, 61, 255};
            return edges[random.nextInt(edges.length)];
        }
        switch (name) {
            case "cover": case "covers": case "buy": case "bought":
                return random.nextInt(66) - 1;
            case "deeds": case "hired":
                return random.nextInt(random.nextInt(2100) + 1) - 1;
            case "firm": case "leave":
                return random.nextInt(1 << random.nextInt(10)) - 1;
            case "wins":
                return random.nextInt(1 << random.nextInt(9));
            case "drawn": case "luck": case "winds":
                return random.nextInt(3) == 0 ? random.nextInt(2000000000) : random.nextInt(22);
            case "rate":
                return random.nextInt(12);
            case "row": case "paste": case "write":
                return random.nextInt(6) - (random.nextInt(6) == 0 ? 1 : 0);
            case "feed":
                return random.nextInt();
            case "person": case "count":
                return random.nextInt(9) - (random.nextInt(9) == 0 ? 1 : 0);
            case "first": case "now": case "image": case "back":
                return random.nextInt(5) - (random.nextInt(5) == 0 ? 1 : 0);
            default:
                return random.nextInt(5) == 0 ? random.nextInt(10) - 1 : random.nextInt(Math.max(2, model.count(0)));
        }
    }

    /** An act or a question that fits the city as it is. */
    private boolean lively() throws ReflectiveOperationException {
        int n = Math.max(1, model.count(0));
        int other = random.nextInt(n);
        int holder = model.person(other, 2);
        int deeds = Math.max(0, model.person(other, 1));
        int deed = deeds == 0 ? 0 : Integer.numberOfTrailingZeros(Integer.highestOneBit(deeds));
        switch (random.nextInt(12)) {
            case 0: case 1:
                return call("ask", holder, other, deed) && call("free");
            case 2:
                return call("why", holder, other, random.nextInt(6));
            case 3:
                return call("give", model.person(Math.max(0, holder), 2), holder, other, random.nextInt(n));
            case 4:
                return call("swap", other, random.nextInt(n)) && call("own");
            case 5:
                return call("steal", random.nextInt(n), other);
            case 6:
                return random.nextInt(3) != 0 || call("day");
            case 7:
                return call("undo");
            case 8:
                return call("work") && call("works", other);
            case 9:
                return call("lay", other, random.nextInt(n)) && call("duel", other, random.nextInt(n), random.nextInt(2));
            case 10:
                return call("image", random.nextInt(3));
            default:
                return call("back", random.nextInt(3));
        }
    }

    private boolean fillRow() throws ReflectiveOperationException {
        int slot = random.nextInt(4);
        boolean asks = random.nextBoolean();
        int n = asks ? 3 * random.nextInt(8) : random.nextInt(5);
        if (!call("row", slot, random.nextInt(4), n)) {
            return false;
        }
        for (int i = 0; i < n; i += asks ? 3 : 1) {
            boolean fine = asks ? writeAsking(slot, i) : writeNumber(slot, i, random.nextInt(random.nextInt(30) == 0 ? 8 : 6));
            if (!fine) {
                return false;
            }
        }
        String[] names = asks ? new String[] {"judge", "freed"} : new String[] {"suspects", "watch", "leaves", "proof"};
        for (String name : names) {
            if (!call(name, slot)) {
                return false;
            }
        }
        return true;
    }

    private boolean writeAsking(int slot, int i) throws ReflectiveOperationException {
        long[] three = {-1, -1, -1};
        int n = model.count(0);
        if (n > 0 && random.nextInt(3) != 0) {
            int other = random.nextInt(n);
            int deeds = model.person(other, 1);
            three = new long[] {Math.max(0, model.person(other, 2)), other,
                deeds == 0 ? random.nextInt(6) : Integer.numberOfTrailingZeros(deeds)};
        }
        if (random.nextInt(60) == 0) {
            three[random.nextInt(3)] = random.nextInt(9) - 1;
        }
        return writeNumber(slot, i, three[0]) && writeNumber(slot, i + 1, three[1]) && writeNumber(slot, i + 2, three[2]);
    }

    private boolean writeNumber(int slot, int i, long v) throws ReflectiveOperationException {
        return call("write", slot, i, random.nextInt(20) == 0 ? v + (256L << 8 * random.nextInt(6)) : v);
    }

    private String goodCity() {
        int n = random.nextInt(9);
        StringBuilder s = new StringBuilder("city wear " + (1 + random.nextInt(random.nextBoolean() ? 3 : 9)) + ";");
        for (int i = 0; i < n; i++) {
            s.append("person worth ").append(1 + random.nextInt(random.nextBoolean() ? 8 : 999));
            s.append(deedsText(" does")).append(deedsText(" wishes")).append(random.nextBoolean() ? "; " : ";\n");
        }
        for (int i = 0; i < n; i++) {
            if (random.nextInt(5) != 0) {
                s.append("card ").append(i).append(" to ").append(random.nextInt(n));
                s.append(random.nextInt(4) == 0 ? " forged;" : ";");
            }
        }
        return s.toString();
    }

    /** Each has one card: the swaps' own ground. */
    private String cityOfRings() {
        int n = 1 + random.nextInt(8);
        StringBuilder s = new StringBuilder("city wear " + (1 + random.nextInt(3)) + ";");
        List<Integer> holders = new ArrayList<>();
        for (int i = 0; i < n; i++) {
            s.append("person worth ").append(1 + random.nextInt(5)).append(deedsText("does")).append(deedsText(" wishes")).append(';');
            holders.add(i);
        }
        java.util.Collections.shuffle(holders, random);
        for (int i = 0; i < n; i++) {
            s.append("card ").append(i).append(" to ").append(holders.get(i)).append(";");
        }
        return s.toString();
    }

    private String deedsText(String word) {
        StringBuilder s = new StringBuilder();
        for (int i = random.nextInt(5); i > 0; i--) {
            s.append(' ').append(random.nextInt(6));
        }
        return s.length() == 0 ? "" : word + s;
    }

    private String spoil(String text) {
        StringBuilder s = new StringBuilder(text);
        for (int i = random.nextInt(3); i >= 0 && s.length() > 0; i--) {
            int at = random.nextInt(s.length());
            switch (random.nextInt(4)) {
                case 0:
                    s.deleteCharAt(at);
                    break;
                case 1:
                    s.setLength(at);
                    break;
                case 2:
                    s.insert(at, "0123456789;azA\n \u00e9".charAt(random.nextInt(17)));
                    break;
                default:
                    String[] words = {" city ", " person ", " card ", " to ", " forged ", " does ", " wishes ", " 7 ", ";"};
                    s.insert(at, words[random.nextInt(words.length)]);
                    break;
            }
        }
        return s.toString();
    }

    private boolean feed(String text) throws ReflectiveOperationException {
        StringBuilder filled = new StringBuilder(text);
        while (filled.length() % 20 != 0) {
            filled.append(';');
        }
        int before = model.count(6);
        for (int i = 0; i < filled.length(); i += 20) {
            if (!call("feed", Checks.number(filled, i), Checks.number(filled, i + 4), Checks.number(filled, i + 8),
                    Checks.number(filled, i + 12), Checks.number(filled, i + 16))) {
                return false;
            }
        }
        return call("end", before + text.length()) && call("city") && call("fault", 0) && call("fault", 1);
    }

    private boolean call(String name, Object... args) throws ReflectiveOperationException {
        for (Method m : methods) {
            if (m.getName().equals(name)) {
                return call(m, args);
            }
        }
        throw new IllegalArgumentException(name);
    }

    private boolean call(Method m, Object[] args) throws ReflectiveOperationException {
        calls++;
        Method same = Model.class.getDeclaredMethod(m.getName(), m.getParameterTypes());
        story.add(m.getName() + Arrays.toString(args));
        int due = (int) same.invoke(model, args);
        String got;
        try {
            got = String.valueOf(m.invoke(x, args));
        } catch (InvocationTargetException e) {
            got = String.valueOf(e.getCause());
        }
        if (got.equals(String.valueOf(due))) {
            return true;
        }
        System.out.println(String.join("\n", story));
        System.out.println("answered " + got + ", due is " + due);
        return false;
    }
}
