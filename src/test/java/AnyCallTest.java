import java.lang.reflect.InvocationTargetException;
import java.lang.reflect.Method;
import java.lang.reflect.Modifier;
import java.util.ArrayList;
import java.util.Comparator;
import java.util.List;
import java.util.Random;

/** Any calls with any arguments in any state: none throws, none takes much room, alike runs answer alike. */
public final class AnyCallTest {
    private static final int[] EDGES = {Integer.MIN_VALUE, -100, -2, -1, 0, 1, 2, 3, 4, 5, 9, 10, 15, 16, 47, 48, 49,
        60, 61, 99, 100, 101, 1023, 1024, 1600, 2_000_000_000, 2_000_000_001, Integer.MAX_VALUE};
    /** As many bytes as objects and rows of 512 calls may take together. */
    private static final long ROOM = 8_000_000;

    private AnyCallTest() {
    }

    public static void main(String[] args) throws Exception {
        List<Method> face = face();
        for (int run = 0; run < 300; run++) {
            long first = answers(face, run);
            Check.part("run " + run);
            Check.due("the same answers again", answers(face, run), first);
        }
        greatestTown(face);
        Check.finish();
    }

    private static List<Method> face() {
        List<Method> face = new ArrayList<>();
        for (Method method : NameGate.class.getDeclaredMethods()) {
            if (Modifier.isPublic(method.getModifiers())) {
                face.add(method);
            }
        }
        face.sort(Comparator.comparing(Method::getName));
        return face;
    }

    private static long answers(List<Method> face, int run) throws Exception {
        Random dice = new Random(run);
        NameGate gate = new NameGate();
        long mixed = 0;
        for (int call = 0; call < 400; call++) {
            if (dice.nextInt(60) == 0) {
                String text = String.join(";", Naive.random(dice, 48, 10, 16, 10).lines(dice)) + ";";
                gate.end(0);
                Check.load(gate, dice.nextInt(4) == 0 ? spoilt(text, dice) : text);
            }
            mixed = mixed * 31 + call(gate, face.get(dice.nextInt(face.size())), dice);
        }
        return mixed;
    }

    private static String spoilt(String text, Random dice) {
        StringBuilder other = new StringBuilder(text);
        other.setCharAt(dice.nextInt(text.length()), (char) dice.nextInt(256));
        return other.toString();
    }

    private static long call(NameGate gate, Method method, Random dice) throws Exception {
        Class<?>[] types = method.getParameterTypes();
        Object[] given = new Object[types.length];
        for (int i = 0; i < types.length; i++) {
            int number = dice.nextInt(6) == 0 ? EDGES[dice.nextInt(EDGES.length)] : dice.nextInt(i == 0 ? 4 : 12);
            if (types[i] == boolean.class) {
                given[i] = number % 2 == 0;
            } else if (types[i] == long.class) {
                given[i] = (long) number * (dice.nextInt(5) == 0 ? 10_000_000_019L : 1);
            } else {
                given[i] = number;
            }
        }
        try {
            return ((Number) method.invoke(gate, given)).longValue();
        } catch (InvocationTargetException thrown) {
            Check.due(method.getName() + java.util.Arrays.toString(given) + " threw " + thrown.getCause(), 1, 0);
            return 0;
        }
    }

    /** The dearest town: each call of the face is made many times, in little room and time. */
    private static void greatestTown(List<Method> face) throws Exception {
        Check.part("the greatest town");
        StringBuilder text = new StringBuilder("town hours 48;");
        text.append("court in 0;".repeat(9));
        for (int g = 0; g < 16; g++) {
            text.append("gate ").append(g % 10).append(" to ").append((g * 7 + 1 + g % 9) % 10 == g % 10
                ? (g + 5) % 10 : (g * 7 + 1 + g % 9) % 10).append(";");
        }
        for (int p = 0; p < 10; p++) {
            text.append("person at ").append(p).append(" from ").append(p + 1).append(" at ").append((p + 3) % 10);
            text.append(p < 4 ? " strays 50 to " + (p + 5) % 10 + ";" : ";");
        }
        com.sun.management.ThreadMXBean meter =
            (com.sun.management.ThreadMXBean) java.lang.management.ManagementFactory.getThreadMXBean();
        long self = Thread.currentThread().getId();
        long began = System.nanoTime();
        long before = meter.getThreadAllocatedBytes(self);
        NameGate gate = new NameGate();
        Check.load(gate, text.toString());
        gate.names(1023);
        for (int i = 0; i < 9; i++) {
            gate.every(1);
            gate.fewest(0, 0, 9, 48, 1);
            gate.out(0, 0, 9, 1);
            gate.three(0, 0, 1, 0, 9);
            gate.vital(0, 0, 9);
            gate.until(0, 0, 9, 99);
            gate.tells(0, 0, 9, 48);
            gate.price(0, 0, 9, 48);
            gate.days(i, 100, 0, 9, 48);
            gate.ways(0, 0, 9, 48);
        }
        for (int i = 0; i < 40; i++) {
            Check.load(gate, text.toString());
        }
        long room = meter.getThreadAllocatedBytes(self) - before;
        long seconds = (System.nanoTime() - began) / 1_000_000_000L;
        Check.due("room kept to, " + room + " bytes", room < ROOM ? 1 : 0, 1);
        Check.due("seconds, " + seconds, seconds < 20 ? 1 : 0, 1);
        Check.due("a town was read", gate.count(0), 10);
        Check.due("calls of the face", face.size(), 56);
    }
}
