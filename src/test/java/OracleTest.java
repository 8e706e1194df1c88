import java.util.Random;

/** Towns at random: every answer of NameGate is held against that of the plain model. */
public final class OracleTest {
    private OracleTest() {
    }

    public static void main(String[] args) {
        Random dice = new Random(20261118);
        int turns = args.length > 0 ? Integer.parseInt(args[0]) : 700;
        for (int turn = 0; turn < turns && !Check.hasFailed(); turn++) {
            Naive town = turn % 10 == 0
                ? Naive.random(dice, 48, 10, 16, 10)
                : Naive.random(dice, 9, 6, 12, 5);
            String text = String.join(";", town.lines(dice)) + ";";
            if (text.length() <= 1600) {
                Check.part("turn " + turn + ", " + text);
                new OracleTest.Round(dice, town, text).ask();
            }
        }
        Check.finish();
    }

    /** One town, asked about everything. */
    private static final class Round {
        private final Random dice;
        private final Naive town;
        private NameGate gate = new NameGate();
        private final String text;

        Round(Random dice, Naive town, String text) {
            this.dice = dice;
            this.town = town;
            this.text = text;
        }

        private int hour() {
            return dice.nextInt(town.hours);
        }

        private int court() {
            return dice.nextInt(town.courts());
        }

        private int subset(int of) {
            return dice.nextInt(1024) & of;
        }

        void ask() {
            fresh();
            for (int turn = 0; turn < 6; turn++) {
                change();
                askPlaces();
                askWalks();
                askTogether();
                askChances();
                askDays();
                fresh();
            }
        }

        /** A new object, as one is used for 512 calls only; what has been set is set again. */
        private void fresh() {
            gate = new NameGate();
            Check.due("town()", Check.load(gate, text), text.chars().filter(c -> c == ';').count());
            town.names = 0;
            town.strayed = 0;
            town.known = 0;
            town.gone = 0;
        }

        private void change() {
            int people = (1 << town.people()) - 1;
            int names = dice.nextInt(3) == 0 ? people : subset(people);
            Check.due("names", gate.names(names), 0);
            town.names = names;
            int strayed = subset(town.strayers());
            Check.due("strayed", gate.strayed(strayed), 0);
            town.strayed = strayed;
            for (int i = 0; i < 3 && town.people() > 0; i++) {
                int p = dice.nextInt(town.people());
                int c = court();
                int h = hour();
                boolean is = dice.nextBoolean();
                Check.due("hear(" + p + ", " + c + ", " + h + ", " + is + ")",
                    gate.hear(p, c, h, is), town.hear(p, c, h, is));
            }
            Check.due("count(7)", gate.count(7), town.known);
            Check.due("count(6)", gate.count(6), town.strayers());
        }

        private void askPlaces() {
            int c = court();
            int in = court();
            int h = hour();
            for (int p = 0; p < town.people(); p++) {
                Check.due("where", gate.where(p, h), town.where(p, h));
                Check.due("think", gate.think(p, c, h), town.think(p, c, h));
            }
            Check.due("within", gate.within(c, h), town.within(c, h));
            Check.due("depth", gate.depth(c), town.depth(c));
            Check.due("lies", gate.lies(c, in), town.liesIn(c, in) ? 1 : 0);
            Check.due("empty", gate.empty(c), town.empty(c));
            Check.due("hollow", gate.hollow(c), town.hollow(c));
            Check.due("keeper", gate.keeper(c), town.keeper(c));
            for (int g = 0; g < town.gates.length; g++) {
                Check.due("leads", gate.leads(g, c), town.leads(g, c));
                Check.due("keys", gate.keys(g, c, h), town.keys(g, c, h));
                int[] likely = town.likely(g, c, h);
                Check.due("likely 0", gate.likely(g, c, h, 0), likely == null ? -1 : likely[0]);
                Check.due("likely 1", gate.likely(g, c, h, 1), likely == null ? -1 : likely[1]);
                int p = dice.nextInt(10);
                Check.due("opens", gate.opens(g, c, h, p), p >= town.people() ? -2 : town.opens(g, c, h, p));
            }
        }

        private void askWalks() {
            int from = court();
            int to = court();
            int h = hour();
            int by = h + dice.nextInt(town.hours - h + 1);
            String trip = "(" + from + ", " + h + ", " + to + ") by " + by + " names " + town.names
                + " strayed " + town.strayed;
            Check.due("soonest" + trip, gate.soonest(from, h, to), town.soonest(from, h, to));
            Check.due("gates" + trip, gate.gates(from, h, to), town.fewestGates(from, h, to));
            int[] way = town.way(from, h, to);
            for (int what = 0; what < 3; what++) {
                Check.due("way " + what + trip, gate.way(from, h, to, what), way == null ? -1 : way[what]);
            }
            Check.due("reach" + trip, gate.reach(from, h), town.reach(from, h));
            Check.due("latest" + trip, gate.latest(from, to), town.latest(from, to));
            for (int p = 0; p < town.people(); p++) {
                Check.due("need " + p + trip, gate.need(p, from, h, to), town.need(p, from, h, to));
                int[] host = town.host(p, from, h, to);
                Check.due("host 0 " + p + trip, gate.host(p, from, h, to, 0), host == null ? -1 : host[0]);
                Check.due("host 1 " + p + trip, gate.host(p, from, h, to, 1), host == null ? -1 : host[1]);
            }
            askSet("fewest" + trip, gate.fewest(from, h, to, by, 0), gate.fewest(from, h, to, by, 1),
                town.fewestSet(from, h, to, by));
            askSet("every", gate.every(0), gate.every(1), town.everySet());
            askSet("out" + trip, gate.out(from, h, to, 0), gate.out(from, h, to, 1), town.outSet(from, h, to));
            Check.due("ways" + trip, gate.ways(from, h, to, by), by == h ? -2 : town.ways(from, h, to, by));
            int follower = subset((1 << town.people()) - 1);
            Check.due("alone " + follower + trip, gate.alone(from, h, to, follower), town.alone(from, h, to, follower));
            int[] teach = town.teach(from, h, to);
            Check.due("teach 0" + trip, gate.teach(from, h, to, 0), teach == null ? -1 : teach[0]);
            Check.due("teach 1" + trip, gate.teach(from, h, to, 1), teach == null ? -1 : teach[1]);
            Check.due("vital" + trip, gate.vital(from, h, to), town.vital(from, h, to));
        }

        private void askSet(String call, int size, int set, int due) {
            Check.due(call + " what 1", set, due);
            Check.due(call + " what 0", size, due == -1 ? -1 : Integer.bitCount(due));
        }

        private void askTogether() {
            int a = court();
            int b = court();
            int c = court();
            int to = court();
            int h = hour();
            String who = "(" + a + ", " + b + ", " + c + ", " + h + ", " + to + ") names " + town.names;
            int with = town.both(a, b, h, to, true);
            int without = town.both(a, b, h, to, false);
            Check.due("both" + who, gate.both(a, b, h, to), with);
            int sooner = without == -1 ? -3 : without - with;
            Check.due("friend" + who, gate.friend(a, b, h, to), with == -1 ? -1 : sooner);
            if (town.hours < 20 || dice.nextInt(4) == 0) {
                Check.due("three" + who, gate.three(a, b, c, h, to), town.three(a, b, c, h, to));
            }
        }

        private void askChances() {
            int from = court();
            int to = court();
            int h = hour();
            int by = h + dice.nextInt(town.hours - h + 1);
            String trip = "(" + from + ", " + h + ", " + to + ", " + by + ") names " + town.names
                + " known " + town.known + " gone " + town.gone;
            Check.due("odds" + trip, gate.odds(from, h, to, by), town.odds(from, h, to, by));
            Check.due("best" + trip, gate.best(from, h, to, by), town.best(from, h, to, by));
            Check.due("sure" + trip, gate.sure(from, h, to, by), town.sure(from, h, to, by));
            Check.due("list" + trip, gate.list(from, h, to, by), town.list(from, h, to, by));
            Check.due("price" + trip, gate.price(from, h, to, by),
                town.list(from, h, to, by) - town.odds(from, h, to, by));
            for (int p = 0; p < town.people(); p++) {
                Check.due("tell " + p + trip, gate.tell(p, from, h, to, by), town.tell(p, from, h, to, by));
            }
            Check.due("tells" + trip, gate.tells(from, h, to, by), town.tells(from, h, to, by));
            int part = 1 + dice.nextInt(100);
            Check.due("until " + part + trip, gate.until(from, h, to, part), town.until(from, h, to, part));
            Check.due("begin" + trip, gate.begin(from, to, h, town.hours - 1), town.begin(from, to, h, town.hours - 1));
        }

        private void askDays() {
            int from = court();
            int to = court();
            int by = dice.nextInt(town.hours + 1);
            int seed = dice.nextInt(2_000_000_001);
            Check.due("draw(" + seed + ")", gate.draw(seed), town.draw(seed));
            Check.due("days(" + seed + ", 10, " + from + ", " + to + ", " + by + ") names " + town.names,
                gate.days(seed, 10, from, to, by), town.days(seed, 10, from, to, by));
            long[] tries = new long[dice.nextInt(12)];
            gate.row(2, 1, tries.length);
            for (int i = 0; i < tries.length; i++) {
                int[] soFar = town.judge(java.util.Arrays.copyOf(tries, i));
                tries[i] = someTry(soFar[1]);
                gate.write(2, i, tries[i]);
            }
            int[] judged = town.judge(tries);
            String call = " of " + java.util.Arrays.toString(tries) + " names " + town.names + " strayed " + town.strayed;
            Check.due("judge" + call, gate.judge(2), judged[0]);
            for (int what = 0; what < 3; what++) {
                Check.due("ends " + what + call, gate.ends(2, what), judged[1 + what]);
            }
        }

        /** Mostly one that can be: through a gate that is there, by a name that is known. */
        private long someTry(int court) {
            if (town.gates.length == 0 || dice.nextInt(5) == 0) {
                return dice.nextInt(20) == 0 ? dice.nextInt(2000) - 20 : -1;
            }
            int g = dice.nextInt(town.gates.length);
            for (int i = 0; i < 10 && town.leads(g, court) == -1; i++) {
                g = dice.nextInt(town.gates.length);
            }
            int to = town.leads(g, court);
            if (to != -1 && town.liesIn(court, to) || town.people() == 0 || dice.nextInt(10) == 0) {
                return g * 100 + 99;
            }
            int name = dice.nextInt(town.people());
            for (int i = 0; i < 10 && !Naive.has(town.names, name); i++) {
                name = dice.nextInt(town.people());
            }
            return g * 100 + name;
        }
    }
}
