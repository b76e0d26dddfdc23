import java.lang.management.ManagementFactory;
import java.lang.reflect.InvocationTargetException;
import java.lang.reflect.Method;
import java.lang.reflect.Modifier;
import java.util.ArrayList;
import java.util.Comparator;
import java.util.List;
import java.util.Random;

/** No call throws, whatever it is given in whatever state, none is long, and none makes objects. */
public final class EndsTest {
    private static final int[] ENDS = {Integer.MIN_VALUE, Integer.MIN_VALUE + 1, -100001, -101, -13, -3, -2, -1, 0, 1,
        2, 3, 4, 5, 6, 7, 8, 9, 10, 12, 13, 20, 39, 40, 41, 59, 60, 99, 100, 255, 256, 319, 320, 399, 400, 401, 40039,
        99999, 100000, 400400, Integer.MAX_VALUE - 3, Integer.MAX_VALUE - 1, Integer.MAX_VALUE};

    public static void main(String[] args) {
        nothingIsThrown();
        nothingIsMade();
        dearCallsEnd();
        Due.end();
    }

    private static List<Method> calls() {
        List<Method> calls = new ArrayList<>();
        for (Method m : GoneRed.class.getDeclaredMethods()) {
            if (Modifier.isPublic(m.getModifiers())) {
                calls.add(m);
            }
        }
        calls.sort(Comparator.comparing(Method::getName));
        return calls;
    }

    private static int anInt(Random lot) {
        int which = lot.nextInt(10);
        return which == 0 ? lot.nextInt() : which < 4 ? ENDS[lot.nextInt(ENDS.length)]
            : which < 8 ? lot.nextInt(6) : lot.nextInt(420);
    }

    private static void nothingIsThrown() {
        List<Method> calls = calls();
        Due.part("faces, seats, .. by lot");
        Due.is("calls", 48, calls.size());
        for (int run = 0; run < 150; run++) {
            Random lot = new Random(1000 + run);
            GoneRed x = new GoneRed();
            for (int f = 0; f < run % 6; f++) {
                x.face(lot.nextInt(60), lot.nextInt(401), f);
            }
            for (int i = 0; i < 600; i++) {
                Method call = calls.get(lot.nextInt(calls.size()));
                Object[] with = new Object[call.getParameterCount()];
                for (int k = 0; k < with.length; k++) {
                    with[k] = anInt(lot);
                }
                try {
                    call.invoke(x, with);
                } catch (InvocationTargetException e) {
                    Due.that(call.getName() + " " + java.util.Arrays.toString(with) + " threw " + e.getCause(), false);
                } catch (IllegalAccessException e) {
                    Due.that(call.getName() + " can be called", false);
                }
            }
        }
    }

    private static GoneRed crowd(String law) {
        GoneRed x = Due.world(law);
        for (int f = 0; f < 5; f++) {
            x.face(11 * f + 3, 40 + f, f);
        }
        return x;
    }

    private static void askAll(GoneRed x) {
        x.film(0, 1, 8);
        for (int f = 0; f < 5; f++) {
            x.best(f, 1);
            x.line(f);
            x.latest(f, 1);
            x.turn(f, 1);
            x.stares(f);
            x.where(f, 1);
            x.needs(f);
            x.began(0, f, 5);
            x.through(0, f, 505);
            x.kinds(0, f, 1);
            x.laws(0, f);
            x.odds(3, 20, 90, 10 * f);
            x.guilty(f, 30030, 40, 0);
        }
        x.change(1);
        x.shade(0, 1);
        x.asked(5, 40);
        x.drawn(5, 40);
        x.image();
        x.back();
        x.sheet(3, 2, 40);
        x.facesBy(3, 2, 0, 5);
        x.copy(3, 0, 3, 1, 39);
        Due.tape(x, "warms not; cools");
        x.text();
    }

    private static void nothingIsMade() {
        Due.part("objects made");
        GoneRed x = crowd("warms glances*4+seen*3; cools 3; looks seen or second<more;");
        askAll(x);
        var threads = (com.sun.management.ThreadMXBean) ManagementFactory.getThreadMXBean();
        long id = Thread.currentThread().getId();
        long before = threads.getThreadAllocatedBytes(id);
        for (int i = 0; i < 10; i++) {
            askAll(x);
        }
        long made = threads.getThreadAllocatedBytes(id) - before;
        // Due.tape makes some small rows itself
        Due.that("ten rounds of all dear calls make " + made + " bytes", made < 20000);
    }

    private static void dearCallsEnd() {
        Due.part("dear calls");
        String sum = "1" + "+more".repeat(22);
        GoneRed x = crowd("warms 1;cools 1;looks " + sum + "<0;");
        long begin = System.nanoTime();
        for (int i = 0; i < 512; i++) {
            x.best(i % 5, 0);
        }
        long ms = (System.nanoTime() - begin) / 1000000;
        Due.that("512 times the dearest call took " + ms + " ms", ms < 60000);
    }
}
