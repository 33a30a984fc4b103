import java.lang.management.ManagementFactory;
import java.lang.reflect.InvocationTargetException;
import java.lang.reflect.Method;
import java.lang.reflect.Modifier;
import java.util.Random;

/** All promises: no call throws, whatever it is given, in any state; and no call makes objects. */
public final class RoomTest {
    private static final Check CHECK = new Check("RoomTest");
    private static final int[] ODD = {0, 1, -1, 2, -2, 3, 5, 6, 9, 11, 12, 20, 30, 60, 61, 99, 400, 9999, 65536,
        Integer.MAX_VALUE, Integer.MIN_VALUE, Integer.MIN_VALUE + 1};

    public static void main(String[] args) throws Exception {
        for (int seed = 0; seed < 200; seed++) {
            oddCalls(seed);
        }
        nothingIsMade();
        CHECK.end();
    }

    private static void oddCalls(int seed) throws Exception {
        Random random = new Random(seed);
        RaftForest x = random.nextBoolean() ? new RaftForest() : full();
        Method[] methods = RaftForest.class.getDeclaredMethods();
        for (int i = 0; i < 400; i++) {
            Method method = methods[random.nextInt(methods.length)];
            if (!Modifier.isPublic(method.getModifiers())) {
                continue;
            }
            Object[] arguments = new Object[method.getParameterCount()];
            for (int j = 0; j < arguments.length; j++) {
                arguments[j] = ODD[random.nextInt(ODD.length)];
            }
            try {
                method.invoke(x, arguments);
                CHECK.holds(method.getName(), true);
            } catch (InvocationTargetException thrown) {
                CHECK.holds(method.getName() + java.util.Arrays.toString(arguments) + " threw " + thrown.getCause(), false);
            }
        }
    }

    /** The most of everything: nine BENDS, six VILLAGES, twelve LOGS, six in the WATER, RULES that ask all WORDS. */
    private static RaftForest full() {
        StringBuilder text = new StringBuilder("river 9;toll 1;width 5 1;width 7 1");
        for (int i = 0; i < 6; i++) {
            text.append(";village " + (i + 1));
        }
        text.append(";wood 3;wood 5;wood 7;wood 9");
        for (int i = 0; i < 12; i++) {
            text.append(";log " + i % 4 + " " + (20 + i) + " 9 " + i % 6);
        }
        RaftForest x = Texts.forest(text.toString());
        Texts.rule(x, "jam owner+room*last<day%11;take log+owner*rings-day%7>water+length/3 and room>0 or day%3=1;"
                + "add room+owner+log>day%5;elect owner+room-bend;mine village*7+notches%3 if village+day>3;mine felled");
        for (int i = 0; i < 6; i++) {
            x.bind(i, 0);
            x.launch(i);
        }
        x.force(0);
        x.law(3, 0);
        return x;
    }

    private static void nothingIsMade() {
        com.sun.management.ThreadMXBean threads =
                (com.sun.management.ThreadMXBean) ManagementFactory.getThreadMXBean();
        long me = Thread.currentThread().getId();
        RaftForest x = full();
        dear(x);
        long before = threads.getThreadAllocatedBytes(me);
        dear(x);
        long made = threads.getThreadAllocatedBytes(me) - before;
        CHECK.holds("bytes made by the dearest calls: " + made, made < 4096);
        before = threads.getThreadAllocatedBytes(me);
        new RaftForest();
        made = threads.getThreadAllocatedBytes(me) - before;
        CHECK.holds("bytes made by the constructor: " + made, made > 4096 && made < 65536);
    }

    private static void dear(RaftForest x) {
        for (int what = 0; what < 3; what++) {
            x.letAhead(20, what);
            x.drawn(10, 60, 100, what);
            x.floats(60, what);
            x.repaid(0, 1, 0);
            x.payments();
            x.image(what);
            x.feed(1835626085, 540082176, 0, 0, 0);
            x.end(6);
            x.rule();
            x.feed(1919514213, 1914712635, 0, 0, 0);
            x.end(5);
            x.river();
            x.elected(3);
            x.kinOf(2);
            x.days(3);
            x.back(what);
        }
    }
}
