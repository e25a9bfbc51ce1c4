import java.lang.reflect.InvocationTargetException;
import java.lang.reflect.Method;
import java.lang.reflect.Modifier;
import java.util.ArrayList;
import java.util.Arrays;
import java.util.Comparator;
import java.util.List;

/** Every call with the least, the greatest and other numbers, in many states: only what is promised is thrown. */
final class ExtremesTest {
    private static final int[] NUMBERS = {Integer.MIN_VALUE, Integer.MIN_VALUE + 1, -13, -1, 0, 1, 2, 3, 7, 8, 12, 13,
        20, 21, 399, 400, 600, 62748517, Integer.MAX_VALUE - 1, Integer.MAX_VALUE};
    private static final int[] FEW = {Integer.MIN_VALUE, -1, 0, 1, 3, 8, 13, 400, Integer.MAX_VALUE};
    /** An object answers 512 calls: what comes later is free. */
    private static final int CALLS = 450;

    private ExtremesTest() {
    }

    public static void main(String[] args) throws IllegalAccessException {
        for (int state = 0; state < 8; state++) {
            for (Method m : methods()) {
                callAll(state, m);
            }
            callMixed(state);
        }
        Check.end("ExtremesTest");
    }

    private static List<Method> methods() {
        List<Method> all = new ArrayList<>();
        for (Method m : TownTune.class.getDeclaredMethods()) {
            if (Modifier.isPublic(m.getModifiers())) {
                all.add(m);
            }
        }
        all.sort(Comparator.comparing(Method::getName));
        return all;
    }

    /** An object in one of eight states, after at most 60 calls. */
    private static TownTune made(int state) {
        String eight = "elder 0 9 0;child 1 8 11;deaf 2 7 5;spy 3 6 6;elder 3 5 1;child 2 4 2;deaf 1 3 3;spy 0 2 4;"
                + "key 11;feud 0 1;feud 2 3;feud 4 5;feud 6 7;feud 0 2;feud 1 3;other 0 1 2 3 4 5 6 7 8 9 10 11 12;"
                + "sings last*(year+1)/(sung-2)-base*9999*9999*9999;";
        switch (state) {
            case 0: return new TownTune();
            case 1: return Check.of("");
            case 2: return Check.of("elder 0 1 0;");
            case 3: return Check.of(eight);
            case 4: return lived(Check.of(eight), 3);
            case 5: return lived(Check.of(eight), 40);
            case 6: return allDead(lived(Check.of("deaf 0 1 0;deaf 1 2 6;other 0;"), 5));
            default: return lived(Check.of("spy 3 365 11;sings 0/0;"), 49);
        }
    }

    private static TownTune lived(TownTune x, int acts) {
        for (int i = 0; i < acts; i++) {
            x.years(20);
        }
        x.hear(399, 0);
        x.image();
        return x;
    }

    private static TownTune allDead(TownTune x) {
        x.dies(0);
        x.dies(1);
        return x;
    }

    private static void callAll(int state, Method m) throws IllegalAccessException {
        int[] numbers = m.getParameterCount() < 3 ? NUMBERS : FEW;
        int many = m.getParameterCount() == 5 ? 1 : m.getParameterCount();
        int[] at = new int[many];
        TownTune x = made(state);
        for (int calls = 0; at.length == 0 ? calls < 2 : at[0] < numbers.length; calls++) {
            if (calls % CALLS == CALLS - 1) {
                x = made(state);
            }
            call(x, m, at, numbers);
            for (int i = at.length - 1; i >= 0; i--) {
                at[i]++;
                if (i > 0 && at[i] == numbers.length) {
                    at[i] = 0;
                } else {
                    break;
                }
            }
        }
    }

    /** All methods in turn on one object, with numbers that go on turning. */
    private static void callMixed(int state) throws IllegalAccessException {
        List<Method> all = methods();
        for (int round = 0; round < 40; round++) {
            TownTune x = made(state);
            for (int i = 0; i < 400; i++) {
                Method m = all.get((i * 7 + round * 3 + i / 37) % all.size());
                int[] at = new int[m.getParameterCount()];
                for (int k = 0; k < at.length; k++) {
                    at[k] = (i * 11 + round * 5 + k * 3 + i / 20) % NUMBERS.length;
                }
                call(x, m, at, NUMBERS);
            }
        }
    }

    private static void call(TownTune x, Method m, int[] at, int[] numbers) throws IllegalAccessException {
        Object[] with = new Object[m.getParameterCount()];
        for (int i = 0; i < with.length; i++) {
            int number = numbers[at[Math.min(i, at.length - 1)]];
            with[i] = m.getParameterTypes()[i] == boolean.class ? (Object) (number > 0) : (Object) number;
        }
        try {
            m.invoke(x, with);
            Check.holds("", true);
        } catch (InvocationTargetException e) {
            boolean promised = Arrays.asList(m.getExceptionTypes()).contains(e.getCause().getClass());
            Check.holds(m.getName() + Arrays.toString(with) + " throws " + e.getCause(), promised);
        }
    }
}
