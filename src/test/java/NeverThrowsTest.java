import java.lang.reflect.InvocationTargetException;
import java.lang.reflect.Method;
import java.lang.reflect.Modifier;
import java.util.ArrayList;
import java.util.List;

/** No call throws, whatever its arguments are and whatever went ahead of it. */
public final class NeverThrowsTest {
    private static final int[] NUMBERS = {
        Integer.MIN_VALUE, -1, 0, 1, 2, 3, 7, 8, 59, 60, 63, 255, 900, 2000000000, Integer.MAX_VALUE,
    };
    private static final int CALLS = 512;

    private static int thrown;
    private static int asked;
    private static CardHolder x;
    private static int calls;

    public static void main(String[] args) throws ReflectiveOperationException {
        for (int state = 0; state < 6; state++) {
            x = inState(state);
            for (Method m : CardHolder.class.getDeclaredMethods()) {
                if (Modifier.isPublic(m.getModifiers())) {
                    all(m, state, new ArrayList<>());
                }
            }
        }
        System.out.println("NeverThrowsTest: " + asked + " calls, " + thrown + " of them threw");
        if (thrown != 0 || asked == 0) {
            System.exit(1);
        }
    }

    private static void all(Method m, int state, List<Object> args) throws ReflectiveOperationException {
        int place = args.size();
        if (place == m.getParameterCount()) {
            call(m, state, args);
            return;
        }
        boolean isLong = m.getParameterTypes()[place] == long.class;
        int step = m.getParameterCount() > 3 ? 2 : 1;
        for (int i = (place + state) % step; i < NUMBERS.length; i += step) {
            args.add(isLong ? (Object) (long) NUMBERS[i] : (Object) NUMBERS[i]);
            all(m, state, args);
            args.remove(place);
        }
    }

    private static void call(Method m, int state, List<Object> args) throws ReflectiveOperationException {
        if (calls >= CALLS - 1) {
            x = inState(state);
        }
        calls++;
        asked++;
        try {
            m.invoke(x, args.toArray());
        } catch (InvocationTargetException e) {
            thrown++;
            if (thrown < 10) {
                System.out.println(m.getName() + args + " in state " + state + " threw " + e.getCause());
            }
        }
    }

    /** New, of nobody, of eight at once, worn out, full of acts, and with a full tape and full rows. */
    private static CardHolder inState(int state) {
        calls = 120;
        String eight = "city wear 1;" + "person worth 999 does 0 5 wishes 5 0;".repeat(8);
        CardHolder y = state == 0 ? new CardHolder()
            : Checks.cityOf(state == 1 ? "city wear 9;" : eight + Checks.cards(7, 0, 1, 2, 3, 4, 5, 6));
        for (int card = 0; state == 3 && card < 8; card++) {
            y.ask((card + 7) % 8, card, 5);
        }
        for (int i = 0; state == 4 && i < 40; i++) {
            y.day();
        }
        for (int i = 0; state == 5 && i < 45; i++) {
            y.feed(-1, -1, -1, -1, -1);
        }
        for (int slot = 0; state == 5 && slot < 4; slot++) {
            y.row(slot, slot, 60);
        }
        return y;
    }
}
