import java.lang.reflect.Method;
import java.util.ArrayList;
import java.util.Arrays;
import java.util.List;

/**
 * Each argument of each call, one below its least, its least, its greatest, one beyond: what is
 * out of bounds is refused as the document says and changes nothing, what is within is not.
 */
public final class ArgumentTest {
    private static final int NONE = NameGate.NONE;
    private static final int NO_SUCH = -2;

    /** Unlike numbers of hours, courts, gates and people, so that no bound passes for another. */
    private static final String MIDDLE = "town hours 7;court in 0;court in 1;gate 0 to 1;gate 1 to 2;gate 0 to 2;"
        + "gate 0 to 1;person at 1;person at 2 strays 40 to 0;person at 0;person at 0 strays 20 to 2;person at 2;false 1;";
    private static final String SMALLEST = "town hours 1;";

    private ArgumentTest() {
    }

    public static void main(String[] args) throws Exception {
        askAbout("the middle town", MIDDLE, 7, 3, 4, 5);
        askAbout("the greatest town", Text.greatest(), 48, 10, 16, 10);
        askAbout("the smallest town", SMALLEST, 1, 1, 0, 0);
        askAbout("no town", "", 0, 0, 0, 0);
        setsOfBits();
        Check.finish();
    }

    /** The bounds of one argument, and what is answered out of them. */
    private static final class Bound {
        final int low;
        final int high;
        final int below;
        final int above;

        Bound(int low, int high, int below, int above) {
            this.low = low;
            this.high = high;
            this.below = below;
            this.above = above;
        }
    }

    private static Bound of(int low, int high) {
        return new Bound(low, high, NO_SUCH, NO_SUCH);
    }

    /** One call: a value for each argument that is within bounds, and the bounds. */
    private static final class Call {
        final Method method;
        final Bound[] bounds;
        final int[] usual;

        Call(String name, int[] usual, Bound... bounds) {
            this.method = find(name);
            this.usual = usual;
            this.bounds = bounds;
        }

        private static Method find(String name) {
            for (Method method : NameGate.class.getMethods()) {
                if (method.getName().equals(name) && method.getDeclaringClass() == NameGate.class) {
                    return method;
                }
            }
            throw new IllegalStateException(name);
        }

        long ask(NameGate gate, int[] values) throws Exception {
            Class<?>[] types = method.getParameterTypes();
            Object[] given = new Object[types.length];
            for (int i = 0; i < types.length; i++) {
                if (types[i] == boolean.class) {
                    given[i] = true;
                } else if (types[i] == long.class) {
                    given[i] = i < values.length ? (long) values[i] : 0L;
                } else {
                    given[i] = values[i];
                }
            }
            return ((Number) method.invoke(gate, given)).longValue();
        }
    }

    private static List<Call> calls(int hours, int courts, int gates, int people) {
        List<Call> calls = new ArrayList<>();
        Bound court = of(0, courts - 1);
        Bound gate = of(0, gates - 1);
        Bound person = of(0, people - 1);
        Bound hour = of(0, hours - 1);
        Bound by = of(0, hours);
        Bound one = of(0, 1);
        Bound two = of(0, 2);
        Bound all = of(0, hours == 0 ? -1 : (1 << people) - 1);
        places(calls, court, gate, person, hour);
        calls.add(new Call("likely", new int[4], gate, court, hour, one));
        for (String name : new String[] {"soonest", "gates", "vital"}) {
            calls.add(new Call(name, new int[3], court, hour, court));
        }
        calls.add(new Call("way", new int[4], court, hour, court, two));
        calls.add(new Call("reach", new int[2], court, hour));
        calls.add(new Call("latest", new int[2], court, court));
        calls.add(new Call("need", new int[4], person, court, hour, court));
        calls.add(new Call("fewest", new int[5], court, of(0, 0), court, by, one));
        calls.add(new Call("every", new int[1], hours == 0 ? of(0, -1) : one));
        calls.add(new Call("ways", new int[] {0, 0, 0, hours}, court, hour, court, of(1, hours)));
        for (String name : new String[] {"out", "teach"}) {
            calls.add(new Call(name, new int[4], court, hour, court, one));
        }
        calls.add(new Call("alone", new int[4], court, hour, court, all));
        for (String name : new String[] {"both", "friend"}) {
            calls.add(new Call(name, new int[4], court, court, hour, court));
        }
        calls.add(new Call("host", new int[5], person, court, hour, court, one));
        calls.add(new Call("three", new int[5], court, court, court, hour, court));
        chances(calls, court, person, hour, by, hours);
        days(calls, court, by, hours);
        return calls;
    }

    private static void places(List<Call> calls, Bound court, Bound gate, Bound person, Bound hour) {
        calls.add(new Call("where", new int[2], person, hour));
        calls.add(new Call("within", new int[2], court, hour));
        for (String name : new String[] {"depth", "empty", "hollow", "keeper"}) {
            calls.add(new Call(name, new int[1], court));
        }
        calls.add(new Call("lies", new int[2], court, court));
        calls.add(new Call("leads", new int[2], gate, court));
        calls.add(new Call("opens", new int[4], gate, court, hour, person));
        calls.add(new Call("keys", new int[3], gate, court, hour));
        for (String name : new String[] {"hear", "think"}) {
            calls.add(new Call(name, new int[3], person, court, hour));
        }
    }

    private static void chances(List<Call> calls, Bound court, Bound person, Bound hour, Bound by, int hours) {
        int middle = hours / 2;
        for (String name : new String[] {"odds", "best", "sure", "list", "price", "tells"}) {
            calls.add(new Call(name, new int[] {0, 0, 0, hours}, court, hour, court, by));
            calls.add(new Call(name, new int[] {0, middle, 0, hours}, court, hour, court, of(middle, hours)));
            calls.add(new Call(name, new int[] {0, middle, 0, middle}, court, of(0, middle), court, of(middle, hours)));
        }
        calls.add(new Call("tell", new int[] {0, 0, 0, 0, hours}, person, court, hour, court, by));
        calls.add(new Call("tell", new int[] {0, 0, middle, 0, middle}, person, court, of(0, middle), court,
            of(middle, hours)));
        calls.add(new Call("fewest", new int[] {0, middle, 0, middle, 0}, court, of(0, middle), court,
            of(middle, hours), of(0, 1)));
        calls.add(new Call("ways", new int[] {0, middle, 0, middle + 1}, court, of(0, middle), court,
            of(middle + 1, hours)));
        calls.add(new Call("until", new int[] {0, 0, 0, 50}, court, hour, court, of(1, 100)));
        calls.add(new Call("begin", new int[] {0, 0, middle, middle}, court, court, of(0, middle),
            of(middle, hours - 1)));
    }

    private static void days(List<Call> calls, Bound court, Bound by, int hours) {
        Bound slot = of(0, hours == 0 ? -1 : 3);
        Bound seed = of(0, hours == 0 ? -1 : 2_000_000_000);
        calls.add(new Call("judge", new int[1], slot));
        calls.add(new Call("ends", new int[2], slot, of(0, hours == 0 ? -1 : 2)));
        calls.add(new Call("draw", new int[1], seed));
        calls.add(new Call("days", new int[] {0, 1, 0, 0, 0}, seed, of(1, 100), court, court, by));
        calls.add(new Call("fault", new int[1], new Bound(0, 1, NONE, NONE)));
        calls.add(new Call("count", new int[1], new Bound(0, 10, NONE, NONE)));
        calls.add(new Call("end", new int[1], new Bound(0, 0, NONE, NONE)));
        calls.add(new Call("keep", new int[1], of(0, 2)));
        calls.add(new Call("back", new int[1], of(0, 2)));
        calls.add(new Call("row", new int[] {0, 3, 5}, of(0, 3), of(0, 3), new Bound(0, 60, -3, -2)));
        calls.add(new Call("write", new int[2], of(0, 3), new Bound(0, 4, -7, -7)));
        Bound place = new Bound(0, 4, -7, -7);
        calls.add(new Call("paste", new int[] {0, 0, 0, 0, 1}, of(0, 3), place, of(0, 3), place,
            new Bound(0, 5, -7, -7)));
    }

    private static void askAbout(String name, String text, int hours, int courts, int gates, int people)
            throws Exception {
        for (Call call : calls(hours, courts, gates, people)) {
            Check.part(name + ", " + call.method.getName());
            refused(ready(text, people), call);
            if (hasAllOf(call)) {
                taken(ready(text, people), call);
            } else {
                Check.due("of what isn't there", call.ask(ready(text, people), call.usual), NO_SUCH);
            }
        }
    }

    /** A town with names known, something heard, rows in all slots and all images kept. */
    private static NameGate ready(String text, int people) {
        NameGate gate = new NameGate();
        if (!text.isEmpty()) {
            Check.due("town()", Check.load(gate, text), text.chars().filter(c -> c == ';').count());
        }
        gate.names((1 << people) - 1);
        gate.strayed(gate.count(6));
        for (int slot = 0; slot < 4; slot++) {
            gate.row(slot, 3, 5);
            gate.write(slot, slot, -1);
        }
        for (int k = 0; k < 3; k++) {
            gate.keep(k);
        }
        return gate;
    }

    private static boolean hasAllOf(Call call) {
        for (Bound bound : call.bounds) {
            if (bound.low > bound.high) {
                return false;
            }
        }
        return true;
    }

    private static void refused(NameGate gate, Call call) throws Exception {
        String before = State.of(gate);
        for (int i = 0; i < call.bounds.length; i++) {
            Bound bound = call.bounds[i];
            int[] values = call.usual.clone();
            for (int value : new int[] {Integer.MIN_VALUE, bound.low - 1}) {
                values[i] = value;
                Check.due(Arrays.toString(values), call.ask(gate, values), hasAllOf(call) ? bound.below : NO_SUCH);
            }
            for (int value : new int[] {bound.high + 1, Integer.MAX_VALUE}) {
                values[i] = value;
                Check.due(Arrays.toString(values), call.ask(gate, values), hasAllOf(call) ? bound.above : NO_SUCH);
            }
        }
        Check.same("nothing happens", State.of(gate), before);
    }

    private static void taken(NameGate gate, Call call) throws Exception {
        for (int i = 0; i < call.bounds.length; i++) {
            int[] values = call.usual.clone();
            for (int value : new int[] {call.bounds[i].low, call.bounds[i].high}) {
                values[i] = value;
                long answer = call.ask(gate, values);
                boolean isRefused = answer == NO_SUCH || answer < -5;
                Check.due(Arrays.toString(values) + " answers " + answer, isRefused ? 1 : 0, mayBeRefused(call, values));
            }
        }
    }

    /** Five numbers put from a place behind the first are beyond the row. */
    private static int mayBeRefused(Call call, int[] values) {
        return call.method.getName().equals("paste") && Math.max(values[1], values[3]) + values[4] > 5 ? 1 : 0;
    }

    private static void setsOfBits() {
        Check.part("sets of people, as bits");
        NameGate gate = ready(MIDDLE, 5);
        for (int set = -40; set < 80; set++) {
            Check.due("names " + set, gate.names(set) >= 0 ? 1 : 0, set >= 0 && set < 32 ? 1 : 0);
        }
        NameGate other = ready(MIDDLE, 5);
        for (int set = -40; set < 80; set++) {
            boolean stray = set == 0 || set == 2 || set == 8 || set == 10;
            Check.due("strayed " + set, other.strayed(set) >= 0 ? 1 : 0, stray ? 1 : 0);
        }
        for (int bit = 5; bit < 32; bit++) {
            Check.due("names, bit " + bit, gate.names(1 << bit), -2);
            Check.due("strayed, bit " + bit, other.strayed(1 << bit), -2);
            Check.due("alone, bit " + bit, other.alone(0, 0, 1, 1 << bit), -2);
        }
        Check.due("names as they were", gate.names(0), 31);
        Check.due("strayed as they were", other.strayed(0), 10);
    }
}
