import java.lang.management.ManagementFactory;
import java.lang.reflect.Array;
import java.lang.reflect.Field;
import java.lang.reflect.Modifier;
import java.util.ArrayDeque;
import java.util.Collections;
import java.util.Deque;
import java.util.IdentityHashMap;
import java.util.Set;

/**
 * All calls of a run live in one room: what an object holds is counted, and no call but the first game makes
 * anything. Run from the project's folder.
 */
public final class RoomTest {
    private static final String TEXT = "court tellers 2 silent 1;motif worth 3 opens owes 2 within 3;motif worth 2 stranger;"
        + "motif worth 4 song;motif worth 1 opens;join 0 to 1;join 1 to 2;join 0 to 2;join 3 to 2;join 2 to 3;"
        + "clash 1 and 3;keeps 1 1;keeps 0 2;forbid 3;listener loves 5 0 1;listener loves 2 3;";

    public static void main(String[] args) throws IllegalAccessException {
        TaleCourt x = new TaleCourt();
        room("a new object", x, 140, 14000);
        Check.tape(x, TEXT);
        Check.due("court()", x.court(), 16);
        x.wins();
        room("behind a game", x, 141, 51000);
        // The asking makes something too, so every call once is compared with none.
        long least = Long.MAX_VALUE;
        long without = Long.MAX_VALUE;
        for (int i = 0; i < 3; i++) {
            without = Math.min(without, made(x, false));
            least = Math.min(least, made(x, true));
        }
        Check.due("bytes made by every call once", least, without);
        room("behind every call", x, 141, 51000);
        Check.finish();
    }

    private static long made(TaleCourt x, boolean calls) {
        com.sun.management.ThreadMXBean threads = (com.sun.management.ThreadMXBean) ManagementFactory.getThreadMXBean();
        long before = threads.getCurrentThreadAllocatedBytes();
        if (calls) {
            everyCall(x);
        }
        return threads.getCurrentThreadAllocatedBytes() - before;
    }

    /** Counts the objects and arrays that can be reached from one, and their fields and elements. */
    private static void room(String when, Object first, int objectsMost, int partsMost) throws IllegalAccessException {
        Set<Object> seen = Collections.newSetFromMap(new IdentityHashMap<>());
        Deque<Object> open = new ArrayDeque<>();
        open.add(first);
        int parts = 0;
        while (!open.isEmpty()) {
            Object one = open.remove();
            if (one instanceof String || !seen.add(one)) {
                continue;
            }
            if (one.getClass().isArray()) {
                parts += elements(one, open);
                continue;
            }
            for (Field field : one.getClass().getDeclaredFields()) {
                if (!Modifier.isStatic(field.getModifiers())) {
                    parts++;
                    field.setAccessible(true);
                    reach(field.get(one), field.getType(), open);
                }
            }
        }
        Check.due(when + ": " + seen.size() + " objects", seen.size() > objectsMost ? 1 : 0, 0);
        Check.due(when + ": " + parts + " fields and elements", parts > partsMost ? 1 : 0, 0);
    }

    private static int elements(Object array, Deque<Object> open) {
        int length = Array.getLength(array);
        for (int i = 0; i < length; i++) {
            reach(Array.get(array, i), array.getClass().getComponentType(), open);
        }
        return length;
    }

    private static void reach(Object value, Class<?> type, Deque<Object> open) {
        if (value != null && !type.isPrimitive()) {
            open.add(value);
        }
    }

    private static void everyCall(TaleCourt x) {
        x.keep(1);
        x.feed(1, 2, 3, 4, 5);
        x.end(3);
        x.court();
        x.fault(1);
        x.end(0);
        theCourt(x);
        theTale(x);
        x.anew();
        theSurvey(x);
        theGame(x);
        theRows(x);
        x.drawn(5, 1);
        x.lot(5, 1);
        x.nights(5, 20);
        x.count(9);
        x.keep(0);
        x.back(1);
    }

    private static void theCourt(TaleCourt x) {
        x.motif(0, 4);
        x.joins(0, 1);
        x.clash(1, 3);
        x.behind(2);
        x.ahead(2);
        x.comes(0);
        x.chain(0, 3);
        x.keeps(1, 0);
        x.forbid(1, 1);
        x.forbid(1, 0);
        x.keeps(1, 1);
    }

    private static void theTale(TaleCourt x) {
        x.say(0);
        x.hush();
        x.say(2);
        x.blunder();
        x.unsay();
        x.told(0);
        x.length();
        x.whose();
        x.may();
        x.why(1);
        x.owed();
        x.due(2);
        x.whole();
        x.points();
        x.share(0);
        x.left(1);
    }

    private static void theSurvey(TaleCourt x) {
        x.longest();
        x.full();
        x.line(1);
        x.best();
        x.tale(1);
        x.roof(10);
        x.beam(10, 1);
        x.rows(2);
        x.wholes();
        x.ends(2);
        x.always(0);
        x.around(2);
        x.lack(2);
        x.crux();
        x.cost(1);
    }

    private static void theGame(TaleCourt x) {
        x.wins();
        x.move();
        x.lasts();
        x.good();
        x.kept(1, 0);
        x.trade();
    }

    private static void theRows(TaleCourt x) {
        x.row(0, 0, 6);
        x.row(1, 0, 6);
        for (int i = 0; i < 6; i++) {
            x.write(0, i, i % 2);
            x.write(1, i, i % 3 == 0 ? 0 : i % 3 + 1);
        }
        x.judge(0);
        x.verdict(0);
        x.lies(0);
        x.orders(0);
        x.fits(0);
        x.liars(1);
        x.who(1);
        x.votes(0, 1);
        x.taste(0, 0);
        x.paste(0, 0, 1, 1, 2);
    }
}
