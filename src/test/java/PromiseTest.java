/** Each promise by hand: ordinary inputs, the edges that the document names, wrong inputs. */
public final class PromiseTest {
    private static final int NONE = NameGate.NONE;
    private static final int ALL = 1_000_000_000;

    /** Court 2 lies in 1, 1 outside; person 2 may stray from outside to 2. */
    private static final String BASE = "town hours 6; court in 0; court in 1; gate 0 to 1; gate 1 to 2;"
        + " person at 1 from 3 at 0; person at 2 from 2 at 0; person at 0 strays 40 to 2; false 1;";
    /** One court; by person 0 it opens from 4 on, by 1 from 2 on, by 2 at hour 0 alone. */
    private static final String LATER = "town hours 8; court in 0; gate 0 to 1; person at 0 from 4 at 1;"
        + " person at 0 from 2 at 1; person at 1 from 1 at 0;";
    /** One court, two who may be there or not. */
    private static final String DOUBT = "town hours 3; court in 0; gate 0 to 1; person at 1 strays 50 to 0;"
        + " person at 0 strays 30 to 1;";

    private PromiseTest() {
    }

    public static void main(String[] args) {
        tapeAndTown();
        places();
        walks();
        sets();
        companions();
        telling();
        emptiness();
        hearing();
        chances();
        daysLived();
        countsAndImages();
        rows();
        Check.finish();
    }

    private static void due(String call, long got, long want) {
        Check.due(call, got, want);
    }

    // ---- promises 1 to 7 ----

    private static void tapeAndTown() {
        newObject();
        feeding();
        ending();
        reading();
        faults();
        limits();
        namesAndStrayed();
    }

    private static void newObject() {
        Check.part("promise 1");
        NameGate gate = new NameGate();
        due("NONE", NameGate.NONE, -1);
        for (int what = 0; what <= 10; what++) {
            due("count " + what, gate.count(what), 0);
        }
        due("fault 0", gate.fault(0), 0);
        due("fault 1", gate.fault(1), NONE);
        due("names 0", gate.names(0), 0);
        due("names 1", gate.names(1), -2);
        due("strayed 0", gate.strayed(0), 0);
        due("strayed 1", gate.strayed(1), -2);
        due("depth 0", gate.depth(0), -2);
        due("empty 0", gate.empty(0), -2);
        due("every 0", gate.every(0), -2);
        due("odds", gate.odds(0, 0, 0, 0), -2);
        due("days", gate.days(0, 1, 0, 0, 0), -2);
        due("draw", gate.draw(0), -2);
        due("back", gate.back(0), -6);
    }

    private static void feeding() {
        Check.part("promise 2");
        NameGate gate = new NameGate();
        for (int i = 1; i <= 80; i++) {
            due("feed " + i, gate.feed(1, 2, 3, 4, 5), 20 * i);
        }
        due("feed 81", gate.feed(1, 2, 3, 4, 5), NONE);
        due("bytes", gate.count(5), 1600);
        due("end 1581", gate.end(1581), 1581);
        due("feed beyond", gate.feed(1, 2, 3, 4, 5), NONE);
        due("bytes as before", gate.count(5), 1581);
        due("end 1580", gate.end(1580), 1580);
        due("feed to the full", gate.feed(1, 2, 3, 4, 5), 1600);
        gate.end(0);
        // "town", " hou", "rs 7", ";   ", then a letter that end cuts off
        due("feed", gate.feed(0x746F776E, 0x20686F75, 0x72732037, 0x3B202020, 0x20202041), 20);
        gate.end(19);
        due("town", gate.town(), 1);
        due("hours", gate.count(1), 7);
    }

    private static void ending() {
        Check.part("promise 3");
        NameGate gate = new NameGate();
        due("end 0", gate.end(0), 0);
        due("end 1", gate.end(1), NONE);
        due("end -1", gate.end(-1), NONE);
        gate.feed(0, 0, 0, 0, 0);
        due("end 21", gate.end(21), NONE);
        due("end -1", gate.end(-1), NONE);
        due("still", gate.count(5), 20);
        due("end 20", gate.end(20), 20);
        due("end 7", gate.end(7), 7);
        due("now", gate.count(5), 7);
        due("end 8", gate.end(8), NONE);
    }

    private static void reading() {
        Check.part("promise 4");
        NameGate gate = Check.townOf(BASE);
        due("courts", gate.count(0), 3);
        due("tape", gate.count(5), 0);
        gate.names(3);
        gate.strayed(4);
        gate.hear(2, 2, 0, true);
        due("faulty", Check.load(gate, "town hours 5; court at 0;"), -4);
        due("tape of a faulty one", gate.count(5), 0);
        due("town stays", gate.count(1), 6);
        due("heard stays", gate.count(7), 4);
        due("names stay", gate.names(3), 3);
        due("strayed stay", gate.strayed(4), 4);
        due("another", Check.load(gate, LATER), 6);
        due("hours", gate.count(1), 8);
        due("heard", gate.count(7), 0);
        due("names", gate.names(0), 0);
        due("strayed", gate.strayed(0), 0);
        due("blank", Check.load(gate, " \n "), 0);
        due("no town", gate.count(0), 0);
        due("no hours", gate.soonest(0, 0, 0), -2);
        due("run together", Check.load(gate, "town hours5;court in0;person at1from2at0strays9to1;law here;false9;"), 5);
        due("where told", gate.where(0, 1), 1);
        due("where later", gate.where(0, 2), 0);
        due("strayers", gate.count(6), 1);
        due("false", gate.count(8), 9);
        due("law", gate.count(9), 0);
    }

    private static void expectFault(String text, int kind, int place) {
        NameGate gate = new NameGate();
        due("town of " + text, Check.load(gate, text), kind == 0 ? text.chars().filter(c -> c == ';').count() : -4);
        due("fault of " + text, gate.fault(0), kind);
        due("place of " + text, gate.fault(1), place);
    }

    private static void faults() {
        Check.part("promise 5");
        due("what 2", new NameGate().fault(2), NONE);
        due("what -1", new NameGate().fault(-1), NONE);
        expectFault("", 0, NONE);
        expectFault("town hours 1;", 0, NONE);
        expectFault("\n town\nhours 048 ;\n", 0, NONE);
        expectFault("town hours 0;", 2, 11);
        expectFault("town hours 49;", 2, 11);
        expectFault("town hours 4294967297;", 2, 11);
        expectFault("town hours 99999999999999999999;", 2, 11);
        expectFault("town hours", 1, 10);
        expectFault("town hours  ", 1, 12);
        expectFault("town hours 5", 1, 12);
        expectFault("town hours ;", 1, 11);
        expectFault("town hours five;", 1, 11);
        expectFault("town hours 5 6;", 1, 13);
        expectFault("town hour 5;", 1, 5);
        expectFault("town hourss 5;", 1, 5);
        expectFault("townhours 5;", 1, 0);
        expectFault("Town hours 5;", 1, 0);
        expectFault("town\thours 5;", 1, 4);
        expectFault("town hours 5\u00ff;", 1, 12);
        expectFault(";", 1, 0);
        expectFault("court in 0;", 1, 0);
        expectFault("5;", 1, 0);
        expectFault("town hours 5;;", 1, 13);
        expectFault("town hours 5;town hours 5;", 1, 13);
        expectFault("town hours 5; house in 0;", 1, 14);
        expectFault("town hours 5; in 0;", 1, 14);
        expectFault("town hours 5; courtz in 0;", 1, 14);
        expectFault("town hours 5; acourt in 0;", 1, 14);
        expectFault("town hours 5;court in 1;", 2, 22);
        expectFault("town hours 5;court at 1;", 1, 19);
        expectFault("town hours 5;court in 0", 1, 23);
        expectFault("town hours 5;court in 0;court in 1;gate 2 to 0;gate 0 to 2;", 0, NONE);
        expectFault("town hours 5;gate 1 to 0;", 2, 18);
        expectFault("town hours 5;gate 0 to 0;", 2, 23);
        expectFault("town hours 5;gate 0 to 1;court in 0;", 2, 23);
        expectFault("town hours 5;gate 0 at 1;", 1, 20);
        expectFault("town hours 5;person at 1;", 2, 23);
        expectFault("town hours 5;person in 0;", 1, 20);
        expectFault("town hours 5;person at 0 from 0 at 0;", 2, 30);
        expectFault("town hours 5;person at 0 from 5 at 0;", 2, 30);
        expectFault("town hours 5;person at 0 from 4 at 0;", 0, NONE);
        expectFault("town hours 5;person at 0 from 2 at 0 from 2 at 0;", 2, 42);
        expectFault("town hours 5;person at 0 from 2 at 0 from 3 at 1;", 2, 47);
        expectFault("town hours 5;person at 0 from 2 at 0 to 3;", 1, 37);
        expectFault("town hours 1;person at 0 from 1 at 0;", 2, 30);
        expectFault("town hours 5;person at 0 strays 0 to 0;", 2, 32);
        expectFault("town hours 5;person at 0 strays 100 to 0;", 2, 32);
        expectFault("town hours 5;person at 0 strays 99 to 1;", 2, 38);
        expectFault("town hours 5;person at 0 strays 99 at 0;", 1, 35);
        expectFault("town hours 5;person at 0 strays 1 to 0 from 1 at 0;", 1, 39);
        expectFault("town hours 5;person at 0 strays 1 to 0 strays 1 to 0;", 1, 39);
        expectFault("town hours 5;law deep;law here;", 2, 22);
        expectFault("town hours 5;law here;false 0;", 0, NONE);
        expectFault("town hours 5;law none;", 1, 17);
        expectFault("town hours 5;law;", 1, 16);
        expectFault("town hours 5;false 10;", 2, 19);
        expectFault("town hours 5;false deep;", 1, 19);
        expectFault("town hours 5;false 9;false 9;", 2, 21);
        expectFault("town hours 0;?", 2, 11);
        expectFault("town hours 5;gate 0 to 0;?", 2, 23);
        NameGate gate = new NameGate();
        Check.load(gate, "town hours 0;");
        Check.load(gate, "town hours 5;");
        due("of the latest", gate.fault(0), 0);
        due("its place", gate.fault(1), NONE);
    }

    private static void limits() {
        Check.part("promise 5, limits");
        String begin = "town hours 5;";
        expectFault(begin + "court in 0;".repeat(9), 0, NONE);
        expectFault(begin + "court in 0;".repeat(9) + "court", 3, 112);
        expectFault(begin + "court in 0;".repeat(9) + "courts", 1, 112);
        String gates = begin + "court in 0;" + "gate 0 to 1;".repeat(16);
        expectFault(gates, 0, NONE);
        expectFault(gates + "gate 7 to 7", 3, gates.length());
        String people = begin + "person at 0;".repeat(10);
        expectFault(people, 0, NONE);
        expectFault(people + " person", 3, people.length() + 1);
        String strayers = begin + "person at 0 strays 1 to 0;".repeat(4);
        expectFault(strayers, 0, NONE);
        expectFault(strayers + "person at 0 strays 0", 2, strayers.length() + 12);
        expectFault(strayers + "person at 0 ;", 0, NONE);
    }

    private static void namesAndStrayed() {
        Check.part("promise 6");
        NameGate gate = Check.townOf(BASE);
        due("first", gate.names(5), 0);
        due("none such", gate.names(8), -2);
        due("below 0", gate.names(-1), -2);
        due("lowest", gate.names(Integer.MIN_VALUE), -2);
        due("those that were", gate.names(7), 5);
        due("to none", gate.names(0), 7);
        Check.part("promise 7");
        due("first", gate.strayed(4), 0);
        due("one who never strays", gate.strayed(1), -2);
        due("among others", gate.strayed(5), -2);
        due("none such", gate.strayed(8), -2);
        due("below 0", gate.strayed(-1), -2);
        due("he is there", gate.where(2, 3), 2);
        due("those that were", gate.strayed(0), 4);
        due("back again", gate.where(2, 3), 0);
    }

    // ---- promises 8 to 14 ----

    private static void places() {
        NameGate gate = Check.townOf(BASE);
        Check.part("promise 8");
        due("ahead", gate.where(0, 2), 1);
        due("from", gate.where(0, 3), 0);
        due("last", gate.where(1, 5), 0);
        due("hour 6", gate.where(0, 6), -2);
        due("hour -1", gate.where(0, -1), -2);
        due("person 3", gate.where(3, 0), -2);
        due("person -1", gate.where(-1, 0), -2);
        Check.part("promise 9");
        due("deep", gate.within(1, 0), 3);
        due("deepest", gate.within(2, 0), 2);
        due("later", gate.within(1, 2), 1);
        due("all", gate.within(0, 5), 7);
        due("court 3", gate.within(3, 0), -2);
        due("hour 6", gate.within(0, 6), -2);
        Check.part("promise 10");
        due("outside", gate.depth(0), 0);
        due("deep", gate.depth(2), 2);
        due("court 3", gate.depth(3), -2);
        due("court -1", gate.depth(-1), -2);
        Check.part("promise 11");
        due("far", gate.lies(2, 0), 1);
        due("near", gate.lies(2, 1), 1);
        due("turned", gate.lies(1, 2), 0);
        due("itself", gate.lies(1, 1), 0);
        due("outside", gate.lies(0, 0), 0);
        due("court 3", gate.lies(3, 0), -2);
        due("in 3", gate.lies(0, 3), -2);
        Check.part("promise 12");
        due("in", gate.leads(0, 0), 1);
        due("out", gate.leads(0, 1), 0);
        due("not there", gate.leads(0, 2), NONE);
        due("gate 2", gate.leads(2, 0), -2);
        due("gate -1", gate.leads(-1, 0), -2);
        due("court 3", gate.leads(0, 3), -2);
        opening(gate);
        here();
    }

    private static void opening(NameGate gate) {
        gate.names(5);
        Check.part("promise 13");
        due("within", gate.opens(0, 0, 0, 0), 1);
        due("gone later", gate.opens(0, 0, 3, 0), 0);
        due("not known", gate.opens(0, 0, 0, 1), 0);
        due("not within", gate.opens(0, 0, 0, 2), 0);
        due("none needed", gate.opens(0, 1, 0, 0), 2);
        due("none needed, not known", gate.opens(0, 1, 0, 1), 2);
        due("not there", gate.opens(1, 0, 0, 0), NONE);
        due("gate 2", gate.opens(2, 0, 0, 0), -2);
        due("court 3", gate.opens(0, 3, 0, 0), -2);
        due("hour 6", gate.opens(0, 0, 6, 0), -2);
        due("name 3", gate.opens(1, 0, 0, 3), -2);
        gate.strayed(4);
        due("strayed in", gate.opens(0, 0, 0, 2), 1);
        Check.part("promise 14");
        due("two", gate.keys(0, 0, 0), 5);
        due("one", gate.keys(1, 1, 0), 4);
        due("none needed", gate.keys(1, 2, 0), 0);
        due("not there", gate.keys(1, 0, 0), NONE);
        due("gate 2", gate.keys(2, 0, 0), -2);
        due("hour -1", gate.keys(0, 0, -1), -2);
        due("court -1", gate.keys(0, -1, 0), -2);
        gate.names(1);
        due("no more", gate.keys(0, 0, 3), 0);
    }

    private static void here() {
        Check.part("promise 9, law here");
        NameGate gate = Check.townOf("town hours 2;law here;court in 0;court in 1;gate 0 to 2;gate 0 to 1;person at 2;");
        due("not in deeper ones", gate.within(1, 0), 0);
        due("nor outside", gate.within(0, 0), 0);
        due("in it", gate.within(2, 0), 1);
        gate.names(1);
        due("straight in", gate.soonest(0, 0, 2), 1);
        due("out of deeper ones", gate.opens(0, 2, 0, 0), 2);
        due("not by one deeper", gate.opens(1, 0, 0, 0), 0);
    }

    // ---- promises 15 to 20 ----

    private static void walks() {
        NameGate gate = Check.townOf(BASE);
        gate.names(3);
        Check.part("promise 15");
        due("two gates", gate.soonest(0, 0, 2), 2);
        due("too late", gate.soonest(0, 1, 2), NONE);
        due("there", gate.soonest(1, 4, 1), 4);
        due("out", gate.soonest(2, 4, 0), 6);
        due("not out", gate.soonest(2, 5, 0), NONE);
        due("court 3", gate.soonest(3, 0, 0), -2);
        due("hour 6", gate.soonest(0, 6, 0), -2);
        due("to 3", gate.soonest(0, 0, 3), -2);
        Check.part("promise 16");
        due("two", gate.gates(0, 0, 2), 2);
        due("there", gate.gates(0, 0, 0), 0);
        due("never", gate.gates(0, 1, 2), NONE);
        due("court -1", gate.gates(-1, 1, 2), -2);
        due("hour 6", gate.gates(0, 6, 2), -2);
        Check.part("promise 17");
        due("gate", gate.way(0, 0, 2, 0), 0);
        due("name", gate.way(0, 0, 2, 1), 0);
        due("hour", gate.way(0, 0, 2, 2), 0);
        due("free", gate.way(2, 0, 0, 1), 99);
        due("out", gate.way(2, 0, 0, 0), 1);
        due("there", gate.way(0, 0, 0, 0), NONE);
        due("never", gate.way(0, 1, 2, 2), NONE);
        due("what 3", gate.way(0, 0, 2, 3), -2);
        due("what -1", gate.way(0, 0, 2, -1), -2);
        due("to 3", gate.way(0, 0, 3, 0), -2);
        Check.part("promise 18");
        due("all", gate.reach(0, 0), 7);
        due("some", gate.reach(0, 1), 3);
        due("itself", gate.reach(0, 3), 1);
        due("last hour", gate.reach(2, 5), 6);
        due("hour 6", gate.reach(0, 6), -2);
        due("court 3", gate.reach(3, 0), -2);
        Check.part("promise 19");
        due("in", gate.latest(0, 2), 0);
        due("less far", gate.latest(0, 1), 2);
        due("out", gate.latest(2, 0), 4);
        due("there", gate.latest(1, 1), 5);
        due("court 3", gate.latest(3, 0), -2);
        due("to -1", gate.latest(0, -1), -2);
        gate.names(0);
        due("never", gate.latest(0, 1), NONE);
        waysAround();
        needing();
    }

    private static void waysAround() {
        Check.part("promise 17, which way");
        // 0 to 3 through 1 or through 2, or round by 1 and 2; person 0 is in 3 from hour 4 on.
        NameGate gate = Check.townOf("town hours 9;court in 0;court in 0;court in 0;"
            + "gate 1 to 2;gate 2 to 3;gate 0 to 2;gate 1 to 3;gate 0 to 1;gate 0 to 1;"
            + "person at 0 from 4 at 3;person at 1;person at 2;");
        gate.names(7);
        due("soonest", gate.soonest(0, 0, 3), 5);
        due("gates", gate.gates(0, 0, 3), 2);
        due("stays as long as can be", gate.way(0, 0, 3, 2), 3);
        due("then the least gate", gate.way(0, 0, 3, 0), 2);
        due("its name", gate.way(0, 0, 3, 1), 2);
        gate.names(3);
        due("the lesser of two alike", gate.way(0, 0, 3, 0), 4);
        due("its name", gate.way(0, 0, 3, 1), 1);
    }

    private static void needing() {
        Check.part("promise 20");
        NameGate gate = Check.townOf(LATER);
        gate.names(7);
        due("later without", gate.need(2, 0, 0, 1), 2);
        due("not needed", gate.need(0, 0, 0, 1), 0);
        due("not needed then", gate.need(2, 0, 1, 1), 0);
        gate.names(3);
        due("two later", gate.need(1, 0, 0, 1), 2);
        due("not known", gate.need(2, 0, 0, 1), 0);
        gate.names(1);
        due("never without", gate.need(0, 0, 0, 1), -3);
        due("there", gate.need(0, 1, 0, 1), 0);
        gate.names(4);
        due("never at all", gate.need(2, 0, 1, 1), NONE);
        due("name 3", gate.need(3, 0, 0, 1), -2);
        due("hour 8", gate.need(0, 0, 8, 1), -2);
        due("court 2", gate.need(0, 2, 0, 1), -2);
    }

    // ---- promises 21 to 25 ----

    private static void sets() {
        NameGate gate = Check.townOf(BASE);
        Check.part("promise 21");
        due("how many", gate.fewest(0, 0, 2, 6, 0), 1);
        due("which", gate.fewest(0, 0, 2, 6, 1), 2);
        due("the least set", gate.fewest(0, 0, 1, 1, 1), 1);
        due("just in time", gate.fewest(0, 0, 2, 2, 1), 2);
        due("by none", gate.fewest(0, 0, 2, 1, 0), NONE);
        due("by none, which", gate.fewest(0, 0, 2, 1, 1), NONE);
        due("no name", gate.fewest(2, 0, 0, 2, 0), 0);
        due("no name, which", gate.fewest(2, 0, 0, 2, 1), 0);
        due("there", gate.fewest(0, 3, 0, 3, 0), 0);
        due("by 7", gate.fewest(0, 0, 2, 7, 0), -2);
        due("by ahead", gate.fewest(0, 2, 0, 1, 0), -2);
        due("what 2", gate.fewest(0, 0, 2, 6, 2), -2);
        due("court 3", gate.fewest(3, 0, 2, 6, 0), -2);
        Check.part("promise 22");
        due("how many", gate.every(0), 1);
        due("which", gate.every(1), 2);
        due("what 2", gate.every(2), -2);
        due("what -1", gate.every(-1), -2);
        NameGate closed = Check.townOf("town hours 3;court in 0;person at 1;");
        due("no gate", closed.every(0), NONE);
        due("no gate, which", closed.every(1), NONE);
        NameGate bare = Check.townOf("town hours 5;");
        due("nothing but outside", bare.every(0), 0);
        countingWays(gate);
        beingOut(gate);
        beingAlone(gate);
        manyNames();
    }

    private static void countingWays(NameGate gate) {
        Check.part("promise 23");
        gate.names(3);
        due("one", gate.ways(0, 0, 1, 1), 1);
        due("two", gate.ways(0, 0, 1, 2), 2);
        due("two gates", gate.ways(0, 0, 2, 2), 1);
        due("there and back", gate.ways(0, 0, 0, 2), 2);
        due("none", gate.ways(0, 3, 1, 6), 0);
        due("not above", gate.ways(0, 2, 0, 2), -2);
        due("below", gate.ways(0, 2, 0, 1), -2);
        due("beyond", gate.ways(0, 0, 0, 7), -2);
        due("to 3", gate.ways(0, 0, 3, 3), -2);
        NameGate many = Check.townOf("town hours 48;court in 0;" + "gate 0 to 1;".repeat(16) + "person at 1;");
        many.names(1);
        due("sixteen gates", many.ways(0, 0, 1, 1), 16);
        // With 17 ways to be anywhere each hour the ways to be in 1 are (17^h - (-15)^h) / 2.
        due("modulo", many.ways(0, 0, 1, 48), remainder(48));
        due("less far", many.ways(0, 0, 1, 7), (410338673L + 170859375L) / 2);
    }

    private static long remainder(int hours) {
        java.math.BigInteger plus = java.math.BigInteger.valueOf(17).pow(hours);
        java.math.BigInteger minus = java.math.BigInteger.valueOf(-15).pow(hours);
        return plus.subtract(minus).shiftRight(1).mod(java.math.BigInteger.valueOf(1_000_000_007L)).longValue();
    }

    private static void beingOut(NameGate gate) {
        Check.part("promise 24");
        gate.names(3);
        due("both", gate.out(0, 0, 1, 0), 2);
        due("both, which", gate.out(0, 0, 1, 1), 3);
        due("one", gate.out(0, 0, 2, 0), 1);
        due("one, which", gate.out(0, 0, 2, 1), 2);
        due("nobody", gate.out(0, 3, 1, 0), 0);
        due("nobody, which", gate.out(0, 3, 1, 1), 0);
        due("even if all are", gate.out(2, 0, 0, 0), NONE);
        due("even if all are, which", gate.out(2, 0, 0, 1), NONE);
        due("there", gate.out(1, 0, 1, 0), NONE);
        due("what 2", gate.out(0, 0, 1, 2), -2);
        due("hour 6", gate.out(0, 6, 1, 0), -2);
    }

    private static void beingAlone(NameGate gate) {
        Check.part("promise 25");
        gate.names(3);
        due("by nobody he knows", gate.alone(0, 0, 1, 4), 1);
        due("when his is gone", gate.alone(0, 0, 1, 2), 3);
        due("at the second gate", gate.alone(0, 0, 2, 1), 2);
        due("he always can", gate.alone(0, 0, 2, 2), NONE);
        due("he can too", gate.alone(0, 0, 1, 3), NONE);
        due("there, and round", gate.alone(1, 0, 1, 0), 2);
        due("free gates shake nobody", gate.alone(2, 0, 0, 0), 4);
        due("nobody behind free gates", gate.alone(2, 4, 0, 0), NONE);
        due("follower 8", gate.alone(0, 0, 1, 8), -2);
        due("follower -1", gate.alone(0, 0, 1, -1), -2);
        due("hour 6", gate.alone(0, 6, 1, 0), -2);
    }

    private static void manyNames() {
        Check.part("promise 22, ten names");
        StringBuilder text = new StringBuilder("town hours 20;");
        text.append("court in 0;".repeat(9));
        for (int court = 1; court < 10; court++) {
            text.append("gate 0 to ").append(court).append(";");
        }
        text.append("person at 0;");
        for (int court = 1; court < 10; court++) {
            text.append("person at ").append(court).append(";");
        }
        NameGate gate = Check.townOf(text.toString());
        due("nine", gate.every(0), 9);
        due("which", gate.every(1), 1022);
        due("the ninth", gate.fewest(0, 0, 9, 1, 1), 512);
        due("from one to another", gate.fewest(1, 0, 9, 2, 1), 512);
        gate.names(1023);
        due("out", gate.out(0, 0, 9, 1), 512);
    }

    // ---- promises 26 to 31 ----

    private static void companions() {
        NameGate gate = Check.townOf(BASE);
        Check.part("promise 26");
        due("he names him", gate.both(0, 1, 0, 1), 1);
        due("by turns", gate.both(2, 0, 0, 2), 2);
        due("late too", gate.both(2, 0, 3, 2), 5);
        due("nobody inside", gate.both(0, 0, 0, 1), NONE);
        due("both there", gate.both(1, 1, 5, 1), 5);
        due("out", gate.both(2, 1, 4, 0), 6);
        due("court 3", gate.both(3, 0, 0, 0), -2);
        due("other 3", gate.both(0, 3, 0, 0), -2);
        due("hour 6", gate.both(0, 0, 6, 0), -2);
        due("to 3", gate.both(0, 0, 0, 3), -2);
        Check.part("promise 27");
        due("never without", gate.friend(0, 1, 0, 1), -3);
        due("never", gate.friend(0, 0, 0, 1), NONE);
        due("other 3", gate.friend(0, 3, 0, 0), -2);
        gate.names(3);
        due("no sooner", gate.friend(2, 0, 0, 2), 0);
        NameGate later = Check.townOf(LATER);
        later.names(1);
        due("four sooner", later.friend(1, 0, 0, 1), 4);
        due("three sooner", later.friend(0, 1, 1, 1), 3);
        Check.part("promise 28");
        due("name", later.teach(0, 0, 1, 0), 2);
        due("sooner by", later.teach(0, 0, 1, 1), 4);
        due("name later", later.teach(0, 1, 1, 0), 1);
        due("sooner later", later.teach(0, 1, 1, 1), 2);
        due("there", later.teach(1, 0, 1, 0), NONE);
        due("what 2", later.teach(0, 0, 1, 2), -2);
        due("court 2", later.teach(2, 0, 1, 0), -2);
        later.names(7);
        due("all are known", later.teach(0, 0, 1, 0), NONE);
        gate.names(0);
        due("the first of several", gate.teach(0, 0, 1, 0), 0);
        due("never now", gate.teach(0, 0, 1, 1), -3);
        due("by none", gate.teach(0, 3, 1, 0), NONE);
        due("by none, hours", gate.teach(0, 3, 1, 1), NONE);
        hosting(gate);
        threeOfThem();
        vitalOnes();
        waiting();
    }

    private static void waiting() {
        Check.part("promise 26, at the hour's begin");
        // Law here: one who names the other must find him in that very court as the hour begins.
        NameGate gate = Check.townOf("town hours 4;court in 0;court in 1;gate 0 to 1;gate 1 to 2;law here;");
        due("not by one deeper", gate.both(0, 2, 0, 1), 2);
        due("nobody stays in it", gate.both(0, 2, 0, 2), NONE);
        due("later", gate.both(0, 2, 2, 1), 4);
        due("too late", gate.both(0, 2, 3, 1), NONE);
    }

    private static void hosting(NameGate gate) {
        Check.part("promise 29");
        gate.names(1);
        due("court", gate.host(0, 0, 0, 2, 0), 2);
        due("hour", gate.host(0, 0, 0, 2, 1), 2);
        due("nearer", gate.host(0, 0, 4, 1, 0), 1);
        due("its hour", gate.host(0, 0, 4, 1, 1), 5);
        due("not known", gate.host(1, 0, 0, 1, 0), 0);
        due("as it is", gate.host(1, 0, 0, 1, 1), 1);
        due("too late", gate.host(0, 0, 5, 2, 0), NONE);
        due("too late, hour", gate.host(0, 0, 5, 2, 1), NONE);
        due("person 3", gate.host(3, 0, 0, 1, 0), -2);
        due("what 2", gate.host(0, 0, 0, 1, 2), -2);
        due("hour 6", gate.host(0, 0, 6, 1, 0), -2);
    }

    private static void threeOfThem() {
        Check.part("promise 30");
        NameGate gate = Check.townOf(BASE);
        due("two name the third", gate.three(2, 0, 0, 0, 2), 2);
        due("whoever it is", gate.three(0, 0, 2, 1, 2), 3);
        due("nobody inside", gate.three(0, 0, 0, 0, 2), NONE);
        due("there", gate.three(2, 2, 2, 3, 2), 3);
        due("too late", gate.three(2, 0, 1, 5, 2), NONE);
        due("third 3", gate.three(0, 0, 3, 0, 2), -2);
        due("one -1", gate.three(-1, 0, 0, 0, 2), -2);
        due("other 3", gate.three(0, 3, 0, 0, 2), -2);
        due("hour -1", gate.three(0, 0, 0, -1, 2), -2);
        // The third one's stay in 2 opens 2 to the others, as long as he stays.
        NameGate ring = Check.townOf("town hours 9;law here;court in 0;court in 0;court in 0;"
            + "gate 0 to 1;gate 1 to 2;gate 2 to 3;gate 3 to 0;");
        due("each opens one", ring.three(0, 1, 2, 0, 2), 2);
        due("on to the last", ring.three(0, 1, 2, 0, 3), NONE);
    }

    private static void vitalOnes() {
        Check.part("promise 31");
        NameGate gate = Check.townOf(BASE);
        gate.names(3);
        due("both", gate.vital(0, 0, 2), 3);
        due("there", gate.vital(0, 0, 0), 0);
        due("never", gate.vital(0, 3, 1), NONE);
        due("hour 6", gate.vital(0, 6, 1), -2);
        due("to 3", gate.vital(0, 0, 3), -2);
        NameGate twice = Check.townOf("town hours 5;court in 0;court in 1;gate 0 to 1;gate 2 to 1;gate 1 to 0;person at 2;");
        twice.names(1);
        due("one of two is none", twice.vital(0, 0, 2), 2);
    }

    // ---- promises 32 to 34 ----

    private static void telling() {
        NameGate gate = Check.townOf(DOUBT);
        gate.names(3);
        Check.part("promise 32");
        due("first", gate.tell(0, 0, 0, 1, 1), 150_000_000);
        due("second", gate.tell(1, 0, 0, 1, 1), 150_000_000);
        due("no use", gate.tell(0, 0, 0, 1, 2), 0);
        due("person 2", gate.tell(2, 0, 0, 1, 1), -2);
        due("by 4", gate.tell(0, 0, 0, 1, 4), -2);
        gate.hear(0, 1, 0, false);
        due("known", gate.tell(0, 0, 0, 1, 1), 0);
        due("the other no more", gate.tell(1, 0, 0, 1, 1), 0);
        gate.forget();
        Check.part("promise 33");
        due("the first of several", gate.tells(0, 0, 1, 1), 0);
        due("of none", gate.tells(0, 0, 1, 2), NONE);
        due("by 4", gate.tells(0, 0, 1, 4), -2);
        due("to 2", gate.tells(0, 0, 2, 1), -2);
        NameGate base = Check.townOf(BASE);
        base.names(7);
        Check.part("promise 32");
        due("never strays", base.tell(0, 0, 0, 2, 6), 0);
        NameGate third = Check.townOf("town hours 3;court in 0;gate 0 to 1;person at 1 strays 50 to 0;"
            + "person at 0 strays 30 to 1;person at 0 strays 50 to 1;");
        third.names(7);
        Check.part("promise 33");
        due("most of the third", third.tell(2, 0, 0, 1, 1), 250_000_000);
        due("the first is as good", third.tells(0, 0, 1, 1), 0);
        third.names(6);
        due("then the second", third.tells(0, 0, 1, 1), 1);
        due("second", third.tell(1, 0, 0, 1, 1), 150_000_000);
        due("third", third.tell(2, 0, 0, 1, 1), 150_000_000);
        Check.part("promise 34");
        due("first hour", gate.until(0, 0, 1, 50), 1);
        due("second hour", gate.until(0, 0, 1, 51), 2);
        due("all it can be", gate.until(0, 0, 1, 65), 2);
        due("never", gate.until(0, 0, 1, 66), NONE);
        due("at once", gate.until(1, 2, 1, 100), 2);
        due("hundredths 0", gate.until(0, 0, 1, 0), -2);
        due("hundredths 101", gate.until(0, 0, 1, 101), -2);
        due("hour 3", gate.until(0, 3, 1, 50), -2);
    }

    // ---- promises 35 to 37 ----

    private static void emptiness() {
        NameGate gate = Check.townOf(BASE);
        Check.part("promise 35");
        due("from 3", gate.empty(1), 3);
        due("from 2", gate.empty(2), 2);
        due("never", gate.empty(0), 6);
        due("court 3", gate.empty(3), -2);
        due("always", Check.townOf("town hours 5;").empty(0), 0);
        NameGate comes = Check.townOf("town hours 5;court in 0;person at 0 from 2 at 1 from 3 at 0;");
        due("again", comes.empty(1), 3);
        Check.part("promise 36");
        due("again", comes.hollow(1), 4);
        due("three", gate.hollow(1), 3);
        due("four", gate.hollow(2), 4);
        due("never", gate.hollow(0), 0);
        due("court -1", gate.hollow(-1), -2);
        Check.part("promise 37");
        due("by himself", gate.keeper(1), 0);
        due("the deeper one's", gate.keeper(2), 1);
        due("nobody", gate.keeper(0), NONE);
        due("court 3", gate.keeper(3), -2);
        gate.strayed(4);
        due("he keeps it now", gate.keeper(2), 2);
        due("most hours", gate.keeper(1), 2);
        due("never empty then", gate.empty(2), 6);
        due("hollow then", gate.hollow(2), 0);
    }

    // ---- promises 38 to 41 ----

    private static void hearing() {
        NameGate gate = Check.townOf(BASE);
        Check.part("promise 38");
        due("can't be", gate.hear(0, 2, 0, true), -5);
        due("can't be not", gate.hear(0, 1, 0, false), -5);
        due("sure anyway", gate.hear(0, 1, 0, true), 1);
        due("nothing learnt", gate.hear(2, 0, 0, true), 0);
        due("outside they all are", gate.hear(2, 0, 0, false), -5);
        due("not sure yet", gate.count(7), 0);
        due("strayed", gate.hear(2, 1, 0, true), 1);
        due("can't be both", gate.hear(2, 1, 5, false), -5);
        due("again", gate.hear(2, 2, 5, true), 1);
        due("sure", gate.count(7), 4);
        due("think", gate.think(2, 2, 5), 100);
        due("truth stays", gate.where(2, 0), 0);
        due("person 3", gate.hear(3, 0, 0, true), -2);
        due("court 3", gate.hear(0, 3, 0, true), -2);
        due("hour 6", gate.hear(0, 0, 6, true), -2);
        Check.part("promise 39");
        due("one", gate.forget(), 1);
        due("none", gate.forget(), 0);
        due("none sure", gate.count(7), 0);
        due("not strayed", gate.hear(2, 1, 0, false), 1);
        due("strays no more", gate.think(2, 2, 5), 0);
        due("can't be", gate.hear(2, 2, 0, true), -5);
        due("one again", gate.forget(), 1);
        gate.hear(0, 1, 0, true);
        due("of others nothing is heard", gate.forget(), 0);
        Check.part("promise 40");
        due("strayed to", gate.think(2, 2, 0), 40);
        due("deeper", gate.think(2, 1, 0), 40);
        due("anyway", gate.think(2, 0, 0), 100);
        due("told", gate.think(0, 1, 0), 100);
        due("not told", gate.think(0, 1, 3), 0);
        gate.strayed(4);
        due("truth is not thought", gate.think(2, 2, 0), 40);
        due("person 3", gate.think(3, 0, 0), -2);
        due("court 3", gate.think(0, 3, 0), -2);
        due("hour 6", gate.think(0, 0, 6), -2);
        likelyOnes();
    }

    private static void likelyOnes() {
        Check.part("promise 41");
        NameGate gate = Check.townOf(BASE);
        due("knows none", gate.likely(0, 0, 0, 0), NONE);
        gate.names(4);
        due("name", gate.likely(0, 0, 0, 0), 2);
        due("parts", gate.likely(0, 0, 0, 1), 40);
        gate.names(7);
        due("the first of several", gate.likely(0, 0, 0, 0), 0);
        due("surely", gate.likely(0, 0, 0, 1), 100);
        due("later", gate.likely(0, 0, 3, 0), 2);
        due("none needed", gate.likely(0, 1, 0, 0), NONE);
        due("not there", gate.likely(1, 0, 0, 1), NONE);
        gate.names(3);
        due("surely not", gate.likely(0, 0, 3, 1), 0);
        due("the first one then", gate.likely(0, 0, 3, 0), 0);
        due("gate 2", gate.likely(2, 0, 0, 0), -2);
        due("hour 6", gate.likely(0, 0, 6, 0), -2);
        due("what 2", gate.likely(0, 0, 0, 2), -2);
    }

    // ---- promises 42 to 47 ----

    private static void chances() {
        NameGate gate = Check.townOf(BASE);
        gate.names(4);
        Check.part("promise 42");
        due("one may be there", gate.odds(0, 0, 2, 6), 400_000_000);
        due("just in time", gate.odds(0, 0, 2, 2), 400_000_000);
        due("too late", gate.odds(0, 0, 2, 1), 0);
        due("there", gate.odds(2, 3, 2, 3), ALL);
        due("out", gate.odds(2, 0, 0, 2), ALL);
        due("by ahead", gate.odds(0, 1, 2, 0), -2);
        due("by 7", gate.odds(0, 0, 2, 7), -2);
        due("hour 6", gate.odds(0, 6, 2, 6), -2);
        due("court 3", gate.odds(3, 0, 2, 6), -2);
        Check.part("promise 43");
        due("one may stay", gate.best(0, 0, 2, 6), NONE);
        due("now", gate.best(0, 0, 2, 2), 2);
        due("there", gate.best(2, 0, 2, 2), -3);
        due("that hour", gate.best(0, 2, 2, 2), -3);
        due("free", gate.best(2, 0, 0, 2), 199);
        due("by 7", gate.best(0, 0, 2, 7), -2);
        due("there, by 7", gate.best(2, 0, 2, 7), -2);
        Check.part("promise 44");
        due("not sure", gate.sure(0, 0, 2, 6), 0);
        due("out", gate.sure(2, 0, 0, 2), ALL);
        due("too late", gate.sure(2, 0, 0, 1), 0);
        due("by 7", gate.sure(0, 0, 2, 7), -2);
        gate.names(6);
        due("sure", gate.sure(0, 0, 2, 6), ALL);
        gate.names(4);
        gate.hear(2, 2, 0, true);
        due("heard", gate.sure(0, 0, 2, 6), ALL);
        gate.forget();
        gate.strayed(4);
        due("truth isn't known", gate.sure(0, 0, 2, 6), 0);
        due("nor by odds", gate.odds(0, 0, 2, 6), 400_000_000);
        lists();
        falseNames();
        noNameAtFreeGates();
        cut();
        Check.part("promise 47");
        due("the first", gate.begin(0, 2, 0, 5), 0);
        due("of 2 to 4", gate.begin(0, 2, 2, 4), 2);
        due("one", gate.begin(0, 2, 5, 5), 5);
        due("turned", gate.begin(0, 2, 3, 2), -2);
        due("b 6", gate.begin(0, 2, 0, 6), -2);
        due("a -1", gate.begin(0, 2, -1, 3), -2);
        due("court 3", gate.begin(3, 2, 0, 3), -2);
    }

    private static void lists() {
        NameGate gate = Check.townOf(DOUBT);
        gate.names(3);
        Check.part("promise 45");
        due("one of them", gate.list(0, 0, 1, 1), 650_000_000);
        due("more time is no use", gate.list(0, 0, 1, 3), 650_000_000);
        due("no time", gate.list(0, 0, 1, 0), 0);
        due("there", gate.list(1, 0, 1, 0), ALL);
        due("by 4", gate.list(0, 0, 1, 4), -2);
        Check.part("promise 46");
        due("one try less", gate.price(0, 0, 1, 1), 150_000_000);
        due("no less", gate.price(0, 0, 1, 2), 0);
        due("by 4", gate.price(0, 0, 1, 4), -2);
        gate.hear(0, 1, 0, true);
        due("heard", gate.price(0, 0, 1, 1), 0);
        Check.part("promise 45");
        due("heard", gate.list(0, 0, 1, 1), ALL);
    }

    private static void falseNames() {
        Check.part("promise 42, false names");
        String text = "town hours 4;court in 0;gate 0 to 1;person at 1 strays 50 to 0;person at 0 strays 30 to 1;false ";
        NameGate none = Check.townOf(text + "0;");
        NameGate one = Check.townOf(text + "1;");
        NameGate nine = Check.townOf(text + "9;");
        none.names(3);
        one.names(3);
        nine.names(3);
        due("both tried", none.odds(0, 0, 1, 2), 650_000_000);
        due("time for one", one.odds(0, 0, 1, 2), 500_000_000);
        due("time for both", one.odds(0, 0, 1, 3), 650_000_000);
        due("all day", nine.odds(0, 0, 1, 4), 500_000_000);
        Check.part("promise 43, false names");
        due("the least name of like ones", none.best(0, 0, 1, 2), 0);
        due("the better one", one.best(0, 0, 1, 2), NONE);
        due("the better one at last", one.best(0, 1, 1, 2), 0);
        due("no time to stay", one.best(0, 0, 1, 3), 0);
    }

    /** To know whether person 0 has strayed would tell the way, but out of 2 nobody is named. */
    private static void noNameAtFreeGates() {
        NameGate gate = Check.townOf("town hours 9;law here;court in 0;court in 1;court in 0;court in 3;court in 0;"
            + "court in 0;gate 2 to 1;gate 1 to 5;gate 5 to 3;gate 1 to 6;gate 6 to 4;gate 4 to 3;"
            + "person at 1 from 1 at 3 strays 50 to 4;person at 5;person at 6;");
        gate.names(7);
        Check.part("promise 42, no name at free gates");
        due("one of two ways", gate.odds(2, 0, 3, 5), 500_000_000);
        due("no time to spare", gate.odds(2, 0, 3, 3), 500_000_000);
        due("too late", gate.odds(2, 0, 3, 2), 0);
        Check.part("promise 43, no name at free gates");
        due("free", gate.best(2, 0, 3, 3), 99);
        due("one may stay", gate.best(2, 0, 3, 5), NONE);
        due("by a sure one", gate.best(1, 1, 3, 3), 101);
        due("the try", gate.best(5, 2, 3, 3), 200);
        Check.part("promise 32, no name at free gates");
        due("all", gate.tell(0, 2, 0, 3, 5), 500_000_000);
        Check.part("promise 33, no name at free gates");
        due("of him", gate.tells(2, 0, 3, 5), 0);
        Check.part("promise 46, no name at free gates");
        due("the list's price", gate.price(2, 0, 3, 5), 500_000_000);
    }

    private static void cut() {
        Check.part("promise 42, cut");
        // Five tries, each by 33 of a hundred at most four of them unlike: what is left is cut each time.
        NameGate gate = Check.townOf("town hours 9;court in 0;gate 0 to 1;person at 0 strays 33 to 1;"
            + "person at 0 strays 33 to 1;person at 0 strays 33 to 1;person at 0 strays 33 to 1;");
        gate.names(15);
        due("four", gate.odds(0, 0, 1, 4), 798_488_790);
        due("two", gate.odds(0, 0, 1, 2), 551_100_000);
        Check.part("promise 45, cut");
        due("list", gate.list(0, 0, 1, 4), 798_488_790);
    }

    // ---- promises 48 to 51 ----

    private static NameGate withRow(String text, int names, long... tries) {
        NameGate gate = Check.townOf(text);
        gate.names(names);
        gate.row(0, 2, tries.length);
        for (int i = 0; i < tries.length; i++) {
            gate.write(0, i, tries[i]);
        }
        return gate;
    }

    private static void expectDay(NameGate gate, int place, int court, int hour, int noes) {
        Check.part("promise 48");
        due("judge", gate.judge(0), place);
        Check.part("promise 49");
        due("court", gate.ends(0, 0), court);
        due("hour", gate.ends(0, 1), hour);
        due("noes", gate.ends(0, 2), noes);
    }

    private static void daysLived() {
        expectDay(withRow(BASE, 3, 0, 101), 2, 2, 2, 0);
        expectDay(withRow(BASE, 3, 0, -1, 101, 99), 4, 0, 5, 1);
        expectDay(withRow(BASE, 3, 0, 199), 1, 1, 1, 0);
        expectDay(withRow(BASE, 3, 0, 1), 1, 1, 1, 0);
        expectDay(withRow(BASE, 3, 99), 0, 0, 0, 0);
        expectDay(withRow(BASE, 3, 2), 0, 0, 0, 0);
        expectDay(withRow(BASE, 3, 3), 0, 0, 0, 0);
        expectDay(withRow(BASE, 3, 100), 0, 0, 0, 0);
        expectDay(withRow(BASE, 3, 200), 0, 0, 0, 0);
        expectDay(withRow(BASE, 3, -2), 0, 0, 0, 0);
        expectDay(withRow(BASE, 3), 0, 0, 0, 0);
        expectDay(withRow(BASE, 3, -1, -1, -1, -1, -1, -1), 6, 0, 6, 0);
        expectDay(withRow(BASE, 3, -1, -1, -1, -1, -1, -1, -1), 6, 0, 6, 0);
        expectDay(withRow(BASE, 4, 2, 2, 2, 2), 3, 0, 6, 3);
        expectDay(withRow(BASE, 4, -1, 2, 2, 2, -1), 4, 0, 6, 3);
        NameGate gate = withRow(BASE, 4, 2, 102, 199, 99);
        gate.strayed(4);
        expectDay(gate, 4, 0, 4, 0);
        Check.part("promise 48");
        due("slot 4", gate.judge(4), -2);
        due("slot -1", gate.judge(-1), -2);
        due("nothing", gate.judge(1), -6);
        Check.part("promise 49");
        due("slot 4", gate.ends(4, 0), -2);
        due("nothing", gate.ends(1, 0), -6);
        due("what 3", gate.ends(0, 3), -2);
        due("what -1", gate.ends(0, -1), -2);
        NameGate none = new NameGate();
        none.row(0, 0, 1);
        due("no town", none.ends(0, 0), -2);
        Check.part("promise 48");
        due("no town", none.judge(0), -2);
        due("no town, nothing", none.judge(1), -2);
        NameGate wide = Check.townOf(BASE);
        wide.row(0, 3, 1);
        wide.write(0, 0, 1L << 32);
        due("too great a number", wide.judge(0), 0);
        NameGate small = Check.townOf(BASE);
        small.row(0, 0, 2);
        small.write(0, 0, 255);
        due("a byte of 255 is -1", small.judge(0), 1);
        drawing();
    }

    private static void drawing() {
        Check.part("promise 50");
        // The draws from seed 1 are 38, 58, 13, 15.
        NameGate gate = Check.townOf("town hours 6;court in 0;gate 0 to 1;person at 0 strays 39 to 1;"
            + "person at 0;person at 0 strays 58 to 1;person at 0 strays 14 to 1;person at 0 strays 15 to 1;");
        due("seed 1", gate.draw(1), 9);
        due("truth stays", gate.strayed(0), 0);
        due("seed 0 draws a 0 first", gate.draw(0) & 1, 1);
        due("last seed", gate.draw(2_000_000_000), 21);
        due("beyond", gate.draw(2_000_000_001), -2);
        due("below 0", gate.draw(-1), -2);
        due("nobody strays", Check.townOf("town hours 1;").draw(7), 0);
        Check.part("promise 51");
        NameGate one = Check.townOf("town hours 6;court in 0;gate 0 to 1;person at 0 strays 39 to 1;");
        one.names(1);
        due("seed 1", one.days(1, 1, 0, 1, 6), 1);
        due("one hour", one.days(1, 1, 0, 1, 1), 1);
        due("no hour", one.days(1, 1, 0, 1, 0), 0);
        due("there", one.days(1, 7, 1, 1, 0), 7);
        int number = 0;
        for (int seed = 100; seed < 200; seed++) {
            number += one.draw(seed);
        }
        due("a hundred", one.days(100, 100, 0, 1, 6), number);
        one.hear(0, 1, 0, false);
        due("what was heard counts for none", one.days(100, 100, 0, 1, 6), number);
        one.strayed(1);
        due("nor truth", one.days(100, 100, 0, 1, 6), number);
        due("n 0", one.days(1, 0, 0, 1, 6), -2);
        due("n 101", one.days(1, 101, 0, 1, 6), -2);
        due("seed 0", one.days(0, 1, 0, 1, 6), 1);
        due("last seed", one.days(2_000_000_000, 1, 0, 1, 6), 1);
        due("seeds behind the last", one.days(2_000_000_000, 100, 1, 1, 6), 100);
        due("seed beyond", one.days(2_000_000_001, 1, 0, 1, 6), -2);
        due("seed below", one.days(-1, 1, 0, 1, 6), -2);
        due("by 7", one.days(1, 1, 0, 1, 7), -2);
        due("by -1", one.days(1, 1, 0, 1, -1), -2);
        due("to 2", one.days(1, 1, 0, 2, 6), -2);
        one.names(0);
        due("no name", one.days(100, 100, 0, 1, 6), 0);
    }

    // ---- promises 52 to 54 ----

    private static void countsAndImages() {
        Check.part("promise 52");
        NameGate gate = Check.townOf(BASE);
        int[] want = {3, 6, 2, 3, 9, 0, 4, 0, 1, 1, 0};
        for (int what = 0; what < want.length; what++) {
            due("count " + what, gate.count(what), want[what]);
        }
        due("count 11", gate.count(11), NONE);
        due("count -1", gate.count(-1), NONE);
        Check.feed(gate, "abc");
        due("tape", gate.count(5), 3);
        gate.row(3, 0, 0);
        due("slots", gate.count(10), 1);
        gate.row(3, 0, 5);
        gate.row(1, 0, 5);
        due("two slots", gate.count(10), 2);
        Check.part("promise 53");
        due("k 3", gate.keep(3), -2);
        due("k -1", gate.keep(-1), -2);
        gate.names(5);
        gate.strayed(4);
        gate.hear(2, 2, 0, true);
        due("keep", gate.keep(1), 0);
        gate.end(0);
        Check.load(gate, LATER);
        gate.names(2);
        due("keep another", gate.keep(0), 0);
        Check.part("promise 54");
        due("nothing", gate.back(2), -6);
        due("k 3", gate.back(3), -2);
        due("k -1", gate.back(-1), -2);
        due("back", gate.back(1), 0);
        due("hours", gate.count(1), 6);
        due("heard", gate.count(7), 4);
        due("heard to have strayed", gate.think(2, 2, 0), 100);
        due("strayed", gate.strayed(0), 4);
        due("names", gate.names(1), 5);
        gate.forget();
        due("once more", gate.back(1), 0);
        due("it is as it was kept", gate.names(5), 5);
        due("heard again", gate.forget(), 1);
        due("the other", gate.back(0), 0);
        due("its hours", gate.count(1), 8);
        due("its names", gate.names(0), 2);
        due("rows stay", gate.count(10), 2);
        NameGate none = new NameGate();
        due("keep no town", none.keep(2), 0);
        Check.load(none, BASE);
        due("back to no town", none.back(2), 0);
        due("no town", none.count(0), 0);
    }

    // ---- promises 55 to 57 ----

    private static void rows() {
        Check.part("promise 55");
        NameGate gate = Check.townOf("town hours 48;court in 0;gate 0 to 1;person at 1;");
        gate.names(1);
        due("row", gate.row(0, 3, 60), 0);
        due("n 61", gate.row(0, 3, 61), -2);
        due("width 4", gate.row(0, 4, 1), -2);
        due("width -1", gate.row(0, -1, 1), -2);
        due("slot 4", gate.row(4, 0, 1), -2);
        due("slot -1", gate.row(-1, 0, 1), -2);
        due("n -1", gate.row(0, 0, -1), -3);
        due("n -1 of no slot", gate.row(4, 0, -1), -2);
        due("the slot stays", gate.write(0, 59, 1), 0);
        due("all are 0", gate.judge(0), 1);
        gate.write(0, 0, -1);
        due("in place of it", gate.row(0, 3, 2), 0);
        due("0 again", gate.judge(0), 1);
        due("shorter", gate.write(0, 2, 0), -7);
        due("none", gate.row(1, 0, 0), 0);
        due("none is a row", gate.judge(1), 0);
        Check.part("promise 56");
        due("slot 4", gate.write(4, 0, 0), -2);
        due("slot -1", gate.write(-1, 0, 0), -2);
        due("nothing", gate.write(2, 0, 0), -6);
        due("beyond", gate.write(1, 0, 0), -7);
        due("below", gate.write(0, -1, 0), -7);
        for (int width = 0; width < 4; width++) {
            cutTo(gate, width);
        }
        pasting(gate);
    }

    /** Staying, as it looks when the bytes above the width are cut. */
    private static void cutTo(NameGate gate, int width) {
        int bits = 8 << width;
        gate.row(2, width, 1);
        due("write", gate.write(2, 0, width == 3 ? -1 : (1L << bits) - 1), 0);
        due("cut to -1, width " + width, gate.judge(2), 1);
        due("stayed", gate.ends(2, 0), 0);
        gate.write(2, 0, width == 3 ? 0 : 1L << bits);
        due("cut to 0, width " + width, gate.judge(2), 1);
        due("gone", gate.ends(2, 0), 1);
        gate.write(2, 0, width == 0 ? 127 : 1L << bits - 1);
        due("neither", gate.judge(2), 0);
        if (width < 3) {
            gate.write(2, 0, (1L << bits) - 2);
            due("below 0", gate.judge(2), 0);
        }
    }

    private static void pasting(NameGate gate) {
        Check.part("promise 57");
        gate.row(0, 1, 4);
        gate.row(1, 1, 2);
        gate.row(2, 2, 4);
        NameGate none = new NameGate();
        none.row(0, 1, 1);
        due("slot 4", gate.paste(4, 0, 0, 0, 1), -2);
        due("to -1", gate.paste(0, 0, -1, 0, 1), -2);
        due("nothing there", none.paste(0, 0, 1, 0, 1), -6);
        due("nothing here", none.paste(1, 0, 0, 0, 1), -6);
        due("unlike", gate.paste(0, 0, 2, 0, 1), -8);
        due("unlike and beyond", gate.paste(0, 0, 2, 0, 9), -8);
        due("beyond here", gate.paste(1, 1, 0, 0, 2), -7);
        due("beyond there", gate.paste(0, 0, 1, 1, 2), -7);
        due("n below", gate.paste(0, 0, 1, 0, -1), -7);
        due("i below", gate.paste(0, -1, 1, 0, 1), -7);
        due("k below", gate.paste(0, 0, 1, -1, 1), -7);
        due("far beyond", gate.paste(0, Integer.MAX_VALUE, 1, 0, Integer.MAX_VALUE), -7);
        due("none at the end", gate.paste(0, 4, 1, 2, 0), 0);
        due("none beyond the end", gate.paste(0, 5, 1, 2, 0), -7);
        // 0 goes in, 99 goes out: in, out, stay, stay becomes in, in .. only if numbers were read late.
        gate.write(0, 0, 0);
        gate.write(0, 1, 99);
        gate.write(0, 2, -1);
        gate.write(0, 3, 0);
        due("its own", gate.paste(0, 0, 0, 1, 3), 0);
        due("in, in can't be", gate.judge(0), 1);
        due("to another", gate.paste(0, 1, 1, 0, 2), 0);
        due("in, out", gate.judge(1), 2);
        due("is outside", gate.ends(1, 0), 0);
        due("back", gate.paste(0, 1, 0, 0, 3), 0);
        due("in, out, stay, stay", gate.judge(0), 4);
        due("is outside then", gate.ends(0, 0), 0);
        due("at 4", gate.ends(0, 1), 4);
    }
}
