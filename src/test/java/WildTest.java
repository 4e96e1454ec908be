import java.lang.reflect.InvocationTargetException;
import java.lang.reflect.Method;
import java.lang.reflect.Modifier;
import java.util.Arrays;
import java.util.Comparator;

/** No call ever throws: any call, with any arguments, in any state, and beyond the 512th call too. */
public final class WildTest {
    private static final int[] EDGES = {Integer.MIN_VALUE, -1000, -2, -1, 0, 1, 2, 3, 4, 5, 6, 7, 8, 9, 10, 20, 60, 61,
        512, 1600, 2000000000, 2000000001, Integer.MAX_VALUE};
    private static long state = 69;

    private static int lot(int n) {
        state = state * 6364136223846793005L + 1442695040888963407L;
        return (int) ((state >>> 33) % n);
    }

    public static void main(String[] args) {
        Method[] face = Arrays.stream(TaleCourt.class.getDeclaredMethods())
            .filter(m -> Modifier.isPublic(m.getModifiers()))
            .sorted(Comparator.comparing(Method::getName)).toArray(Method[]::new);
        Check.due("the face's methods", face.length, 68);
        for (int run = 0; run < 300; run++) {
            TaleCourt x = new TaleCourt();
            for (int call = 0; call < 700; call++) {
                if (lot(40) == 0) {
                    x.end(0);
                    Check.court(x, text());
                }
                call(x, face[lot(face.length)]);
            }
        }
        Check.finish();
    }

    private static void call(TaleCourt x, Method method) {
        Object[] values = new Object[method.getParameterCount()];
        for (int i = 0; i < values.length; i++) {
            int value = lot(4) == 0 ? EDGES[lot(EDGES.length)] : lot(10);
            if (method.getParameterTypes()[i] == long.class) {
                values[i] = lot(9) == 0 ? Long.MIN_VALUE + value : (long) value;
            } else {
                values[i] = value;
            }
        }
        try {
            method.invoke(x, values);
            Check.due(method.getName(), 0, 0);
        } catch (InvocationTargetException | IllegalAccessException e) {
            Check.due(method.getName() + Arrays.toString(values) + " threw " + e.getCause(), 1, 0);
        }
    }

    /** Nine motifs and eight listeners at times, so that every bound is met. */
    private static String text() {
        int n = lot(3) == 0 ? 9 : lot(10);
        int tellers = 1 + lot(3);
        StringBuilder s = new StringBuilder("court tellers " + tellers + " silent " + lot(4) + ";");
        for (int m = 0; m < n; m++) {
            int owes = lot(9);
            s.append("motif worth ").append(lot(10)).append(lot(2) == 0 ? " opens" : "").append(lot(4) == 0 ? " song" : "");
            s.append(owes != m && lot(4) == 0 ? " owes " + owes + " within " + (1 + lot(9)) : "").append(';');
        }
        for (int a = 0; a < n; a++) {
            for (int b = 0; b < n; b++) {
                s.append(a != b && lot(3) > 0 ? "join " + a + " to " + b + ";" : "");
            }
            s.append(lot(3) == 0 ? "keeps " + lot(tellers) + " " + a + ";" : "");
        }
        for (int l = lot(9); l > 0; l--) {
            s.append("listener loves ").append(lot(10)).append(n > 0 ? " " + lot(n) : "").append(';');
        }
        return s.toString();
    }
}
