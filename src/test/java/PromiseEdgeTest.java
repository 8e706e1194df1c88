/** Promises 6 to 47: each sentence that names a boundary case, by its own words. */
public final class PromiseEdgeTest {
    private static final int NONE = NameGate.NONE;
    private static final long ALL = 1_000_000_000L;

    /** Court 2 lies in 1; person 0 is in 1 to hour 2, 1 in 2 to hour 1, 2 may stray to 2. */
    private static final String NESTED = "town hours 6;court in 0;court in 1;gate 0 to 1;gate 1 to 2;"
        + "person at 1 from 3 at 0;person at 2 from 2 at 0;person at 0 strays 40 to 2;";
    /** Court 1 opens by person 0 from 4 on, by 1 from 2 on, by 2 at hour 0, by 3 at the last hour. */
    private static final String LATER = "town hours 8;court in 0;gate 0 to 1;person at 0 from 4 at 1;"
        + "person at 0 from 2 at 1;person at 1 from 1 at 0;person at 0 from 7 at 1;";

    private PromiseEdgeTest() {
    }

    public static void main(String[] args) {
        names();
        strayed();
        places();
        gatesThere();
        soonest();
        wayAndReach();
        latest();
        need();
        fewest();
        every();
        ways();
        out();
        alone();
        both();
        teach();
        host();
        three();
        vital();
        tell();
        until();
        empty();
        hear();
        forget();
        think();
        likely();
        odds();
        best();
        sure();
        begin();
        Check.finish();
    }

    private static void due(String call, long got, long want) {
        Check.due(call, got, want);
    }

    private static NameGate town(String text, int names) {
        NameGate gate = Check.townOf(text);
        gate.names(names);
        return gate;
    }

    private static void names() {
        NameGate gate = Check.townOf(NESTED);
        Check.part("6: NAMES that one knows are these from now on: those that were");
        due("none were", gate.names(7), 0);
        due("all were", gate.names(4), 7);
        due("one was", gate.names(0), 4);
        due("none again", gate.names(0), 0);
        Check.part("6: -2: there are none such");
        gate.names(5);
        due("a fourth", gate.names(8), -2);
        due("among others", gate.names(15), -2);
        due("below 0", gate.names(-1), -2);
        due("the highest bit", gate.names(Integer.MIN_VALUE), -2);
        due("they stay", gate.names(5), 5);
        NameGate ten = Check.townOf(Text.HOURS + Text.PERSON.repeat(10));
        due("ten", ten.names(1023), 0);
        due("an eleventh", ten.names(1024), -2);
        due("ten still", ten.names(0), 1023);
        NameGate nobody = Check.townOf(Text.HOURS);
        due("nobody is there", nobody.names(1), -2);
        due("none can be named", nobody.names(0), 0);
        Check.part("6: NAMES change what opens, not who is where");
        gate.names(0);
        due("no key", gate.keys(0, 0, 0), 0);
        due("within", gate.within(1, 0), 3);
    }

    private static void strayed() {
        NameGate gate = Check.townOf(NESTED);
        Check.part("7: STRAYED are these from now on: those that were");
        due("none were", gate.strayed(4), 0);
        due("one was", gate.strayed(4), 4);
        due("he is there", gate.where(2, 0), 2);
        due("he was", gate.strayed(0), 4);
        due("he is back", gate.where(2, 0), 0);
        Check.part("7: -2: there are none such (one who never strays among them)");
        gate.strayed(4);
        due("one who never strays", gate.strayed(1), -2);
        due("among others", gate.strayed(6), -2);
        due("a fourth", gate.strayed(8), -2);
        due("below 0", gate.strayed(-4), -2);
        due("they stay", gate.strayed(0), 4);
        NameGate four = Check.townOf(Text.HOURS + Text.PERSON + Text.STRAYER.repeat(4));
        due("all four", four.strayed(30), 0);
        due("and the first", four.strayed(31), -2);
        due("four still", four.strayed(0), 30);
        due("nobody strays", Check.townOf(Text.HOURS + Text.PERSON).strayed(1), -2);
    }

    private static void places() {
        NameGate gate = Check.townOf(NESTED);
        Check.part("8: -2: there are none such");
        due("person", gate.where(3, 0), -2);
        due("HOUR", gate.where(0, 6), -2);
        due("neither", gate.where(-1, -1), -2);
        due("the last ones", gate.where(2, 5), 0);
        Check.part("9: Those WITHIN a COURT at an HOUR, as bits");
        due("nobody", gate.within(1, 3), 0);
        due("all", gate.within(0, 0), 7);
        due("-2 of a COURT", gate.within(3, 0), -2);
        due("-2 of an HOUR", gate.within(2, 6), -2);
        Check.part("10: How deep a COURT lies (0 outside)");
        due("outside", gate.depth(0), 0);
        due("one deep", gate.depth(1), 1);
        due("two deep", gate.depth(2), 2);
        due("-2", gate.depth(3), -2);
        Check.part("11: Whether a COURT lies in another one (in one that lies in it ..)");
        due("next", gate.lies(1, 0), 1);
        due("further", gate.lies(2, 0), 1);
        due("turned about", gate.lies(0, 2), 0);
        NameGate chain = Check.townOf(Text.greatest());
        due("the deepest in the outermost", chain.lies(9, 0), 1);
        due("in the first", chain.lies(9, 1), 1);
        Check.part("11: (not in itself)");
        for (int court = 0; court < 3; court++) {
            due("court " + court, gate.lies(court, court), 0);
        }
        Check.part("11: -2: there are none such");
        due("COURT", gate.lies(3, 0), -2);
        due("in", gate.lies(0, 3), -2);
        due("both, alike", gate.lies(3, 3), -2);
    }

    private static void gatesThere() {
        NameGate gate = town(NESTED, 5);
        Check.part("12: NONE: it isn't there");
        due("at one end", gate.leads(1, 1), 2);
        due("at the other", gate.leads(1, 2), 1);
        due("elsewhere", gate.leads(1, 0), NONE);
        due("-2 of a GATE", gate.leads(2, 0), -2);
        due("-2 of a COURT", gate.leads(1, 3), -2);
        Check.part("13: 0 (also of a NAME one does not know)");
        due("known, within", gate.opens(0, 0, 0, 0), 1);
        due("not known, within", gate.opens(1, 1, 0, 1), 0);
        due("known, not within", gate.opens(1, 1, 0, 0), 0);
        due("gone at 3", gate.opens(0, 0, 3, 0), 0);
        due("not yet at 2", gate.opens(0, 0, 2, 0), 1);
        Check.part("13: as all are (II), not as they are THOUGHT");
        due("not strayed", gate.opens(1, 1, 0, 2), 0);
        gate.strayed(4);
        due("strayed", gate.opens(1, 1, 0, 2), 1);
        due("by deep", gate.opens(0, 0, 5, 2), 1);
        gate.strayed(0);
        gate.hear(2, 2, 0, true);
        due("what is HEARD opens nothing", gate.opens(1, 1, 0, 2), 0);
        Check.part("13: 2: none is needed");
        due("of a NAME one knows", gate.opens(1, 2, 0, 0), 2);
        due("of one that one does not know", gate.opens(1, 2, 0, 1), 2);
        Check.part("13: NONE: it isn't there; -2: there are none such");
        due("not there", gate.opens(1, 0, 0, 0), NONE);
        due("not there, no such NAME", gate.opens(1, 0, 0, 3), -2);
        due("none needed, no such NAME", gate.opens(1, 2, 0, 3), -2);
        due("none needed, no such HOUR", gate.opens(1, 2, 6, 0), -2);
        due("not there, no such HOUR", gate.opens(1, 0, 6, 0), -2);
        Check.part("14: NAMES (of those one knows) that open it then");
        gate.names(3);
        due("both", gate.keys(0, 0, 0), 3);
        gate.names(2);
        due("of those one knows", gate.keys(0, 0, 0), 2);
        due("nobody", gate.keys(0, 0, 2), 0);
        Check.part("14: 0 also, if none is needed");
        due("out", gate.keys(1, 2, 0), 0);
        Check.part("14: -1 (NONE) and -2 likewise");
        due("not there", gate.keys(0, 2, 0), NONE);
        due("not there, no such HOUR", gate.keys(0, 2, 6), -2);
        due("no such GATE", gate.keys(2, 0, 0), -2);
    }

    private static void soonest() {
        NameGate gate = town(LATER, 8);
        Check.part("15: SOONEST .. the HOUR; NONE: never");
        due("by the end of the day", gate.soonest(0, 0, 1), 8);
        due("from the last HOUR", gate.soonest(0, 7, 1), 8);
        gate.names(4);
        due("in the first HOUR", gate.soonest(0, 0, 1), 1);
        due("never", gate.soonest(0, 1, 1), NONE);
        gate.names(0);
        due("no NAMES", gate.soonest(0, 0, 1), NONE);
        Check.part("15: -2: there are none such");
        due("HOUR", gate.soonest(0, 8, 1), -2);
        due("from", gate.soonest(2, 0, 1), -2);
        due("to", gate.soonest(0, 0, 2), -2);
        due("there, but no such HOUR", gate.soonest(0, 8, 0), -2);
        Check.part("16: By how many GATES at least one comes there at that SOONEST HOUR");
        due("one is there", gate.gates(1, 7, 1), 0);
        due("never", gate.gates(0, 0, 1), NONE);
        gate.names(8);
        due("in the last HOUR", gate.gates(0, 7, 1), 1);
        due("-2", gate.gates(0, 8, 1), -2);
        NameGate around = town("town hours 5;court in 0;court in 0;gate 0 to 1;gate 1 to 2;gate 0 to 2;"
            + "person at 1;person at 0 from 2 at 2;", 3);
        due("the straight one, though there is time for two", around.gates(0, 0, 2), 1);
    }

    private static void wayAndReach() {
        NameGate gate = town(LATER, 9);
        Check.part("17: its NAME (the least one knows that opens it; 99: none is needed)");
        due("the one that is within", gate.way(0, 0, 1, 1), 0);
        due("its HOUR", gate.way(0, 0, 1, 2), 4);
        due("the least of two", gate.way(0, 7, 1, 1), 0);
        gate.names(8);
        due("one not known is not named", gate.way(0, 7, 1, 1), 3);
        due("the last HOUR", gate.way(0, 7, 1, 2), 7);
        due("out", gate.way(1, 7, 0, 1), 99);
        due("out, at once", gate.way(1, 7, 0, 2), 7);
        Check.part("17: NONE: never, or one is there");
        for (int what = 0; what < 3; what++) {
            due("there, what " + what, gate.way(1, 3, 1, what), NONE);
            gate.names(0);
            due("never, what " + what, gate.way(0, 3, 1, what), NONE);
            gate.names(8);
        }
        Check.part("17: -2: there are none such");
        due("what 3", gate.way(0, 0, 1, 3), -2);
        due("what -1", gate.way(0, 0, 1, -1), -2);
        due("there, what 3", gate.way(1, 0, 1, 3), -2);
        due("never, no such HOUR", gate.way(0, 8, 1, 0), -2);
        Check.part("18: COURTS in which one can ever be");
        due("the COURT itself", gate.reach(1, 7) & 2, 2);
        due("in the last HOUR", gate.reach(0, 7), 3);
        gate.names(4);
        due("no more", gate.reach(0, 1), 1);
        due("alone in a town of one", Check.townOf("town hours 1;").reach(0, 0), 1);
        NameGate all = town(Text.greatest(), 1023);
        due("all ten", all.reach(0, 0), 1023);
        due("nine gates in nine HOURS", all.reach(0, 38), 1023);
        due("-2", all.reach(10, 0), -2);
    }

    private static void latest() {
        NameGate gate = town(LATER, 8);
        Check.part("19: The latest HOUR (0 .. hours less 1)");
        due("the last", gate.latest(0, 1), 7);
        gate.names(4);
        due("the first", gate.latest(0, 1), 0);
        gate.names(6);
        due("till the last again", gate.latest(0, 1), 7);
        NameGate two = town("town hours 6;court in 0;court in 1;gate 0 to 1;gate 1 to 2;person at 2;", 1);
        due("two gates need two HOURS", two.latest(0, 2), 4);
        Check.part("19: (or be there) to the end");
        due("there", two.latest(2, 2), 5);
        due("outside", two.latest(0, 0), 5);
        Check.part("19: NONE: never");
        two.names(0);
        due("no NAME", two.latest(0, 2), NONE);
        NameGate one = town("town hours 1;court in 0;court in 1;gate 0 to 1;gate 1 to 2;person at 2;", 1);
        due("one HOUR is too short", one.latest(0, 2), NONE);
        due("for one gate it is not", one.latest(0, 1), 0);
        Check.part("19: -2: there are none such");
        due("from", two.latest(3, 0), -2);
        due("to", two.latest(0, 3), -2);
        due("alike", two.latest(3, 3), -2);
    }

    private static void need() {
        NameGate gate = town(LATER, 15);
        Check.part("20: How many HOURS later SOONEST is, if one did not know a NAME");
        due("two later", gate.need(2, 0, 0, 1), 2);
        due("none later", gate.need(0, 0, 0, 1), 0);
        gate.names(12);
        due("at the end of the day", gate.need(2, 0, 0, 1), 7);
        Check.part("20: (one that one knows, or does not: 0 then)");
        due("not known", gate.need(0, 0, 0, 1), 0);
        due("one is there", gate.need(3, 1, 7, 1), 0);
        Check.part("20: -3: never then, but with it");
        due("at 1 the last alone helps", gate.need(3, 0, 1, 1), -3);
        Check.part("20: NONE: never at all");
        gate.names(4);
        due("a NAME one knows", gate.need(2, 0, 1, 1), NONE);
        due("one that one does not", gate.need(0, 0, 1, 1), NONE);
        Check.part("20: -2: there are none such");
        due("NAME", gate.need(4, 0, 1, 1), -2);
        due("never, no such NAME", gate.need(-1, 0, 1, 1), -2);
        due("HOUR", gate.need(0, 0, 8, 1), -2);
    }

    private static void fewest() {
        NameGate gate = Check.townOf(LATER);
        Check.part("21: FEWEST NAMES of all PEOPLE, known or not");
        due("one", gate.fewest(0, 0, 1, 1, 0), 1);
        due("which", gate.fewest(0, 0, 1, 1, 1), 4);
        due("0, one is there", gate.fewest(1, 0, 1, 0, 0), 0);
        due("none of them, out", gate.fewest(1, 7, 0, 8, 1), 0);
        Check.part("21: (what 1: the least set, as bits, of several)");
        due("by the end any of four", gate.fewest(0, 0, 1, 8, 1), 1);
        due("by 3", gate.fewest(0, 1, 1, 3, 1), 2);
        due("by 5", gate.fewest(0, 1, 1, 5, 1), 1);
        // To 3 by 1 and 2: either person 3 alone (a greater number), or 0 and 1.
        NameGate few = Check.townOf("town hours 4;law here;court in 0;court in 0;gate 0 to 1;gate 1 to 2;"
            + "person at 1;person at 2;person at 2;person at 1 from 1 at 2;");
        due("one greater rather than two lesser", few.fewest(0, 0, 2, 2, 1), 8);
        due("one", few.fewest(0, 0, 2, 2, 0), 1);
        due("later two, the least of several", few.fewest(0, 1, 2, 4, 1), 3);
        due("two", few.fewest(0, 1, 2, 4, 0), 2);
        Check.part("21: of ten PEOPLE");
        NameGate ten = Check.townOf("town hours 9;law here;court in 0;court in 0;gate 0 to 1;gate 1 to 2;"
            + "person at 0;".repeat(5) + "person at 1;person at 1;person at 0;person at 2;person at 2;");
        due("two", ten.fewest(0, 0, 2, 9, 0), 2);
        due("the least set of several", ten.fewest(0, 0, 2, 9, 1), 32 + 256);
        due("the sixth and seventh are alike", ten.fewest(0, 0, 1, 1, 1), 32);
        due("of the last two the first", ten.fewest(1, 0, 2, 1, 1), 256);
        NameGate last = Check.townOf("town hours 9;court in 0;gate 0 to 1;" + "person at 0;".repeat(9) + "person at 1;");
        due("the tenth alone", last.fewest(0, 0, 1, 1, 1), 512);
        due("outside needs nobody", last.fewest(1, 8, 0, 9, 1), 0);
        Check.part("21: NONE: by none");
        NameGate nested = Check.townOf(NESTED);
        due("outside is too far", nested.fewest(2, 5, 0, 6, 0), NONE);
        due("outside is too far, which", nested.fewest(2, 5, 0, 6, 1), NONE);
        due("an HOUR ahead it is not", nested.fewest(2, 4, 0, 6, 1), 0);
        due("too soon", gate.fewest(0, 1, 1, 2, 0), NONE);
        due("too soon, which", gate.fewest(0, 1, 1, 2, 1), NONE);
        due("that very HOUR", gate.fewest(0, 0, 1, 0, 0), NONE);
        Check.part("21: -2: there are none such");
        due("what 2", gate.fewest(0, 0, 1, 1, 2), -2);
        due("what -1", gate.fewest(0, 0, 1, 1, -1), -2);
        due("by 9", gate.fewest(0, 0, 1, 9, 0), -2);
        due("by ahead", gate.fewest(0, 3, 1, 2, 0), -2);
    }

    private static void every() {
        Check.part("22: FEWEST NAMES by which one can ever be in every COURT (from outside, at HOUR 0)");
        due("outside alone", Check.townOf("town hours 1;").every(0), 0);
        due("outside alone, which", Check.townOf("town hours 1;").every(1), 0);
        NameGate two = Check.townOf("town hours 3;court in 0;court in 0;gate 0 to 1;gate 0 to 2;"
            + "person at 0;person at 1;person at 2;person at 2;");
        due("two", two.every(0), 2);
        due("the least set of several", two.every(1), 6);
        NameGate turns = Check.townOf("town hours 3;court in 0;court in 0;gate 0 to 1;gate 0 to 2;"
            + "person at 1;person at 2;person at 2 from 1 at 1;");
        due("one who is in both by turns", turns.every(0), 1);
        due("rather than two lesser ones", turns.every(1), 4);
        NameGate last = Check.townOf("town hours 1;court in 0;gate 0 to 1;person at 1;");
        due("at the end of the day", last.every(1), 1);
        NameGate late = Check.townOf("town hours 1;court in 0;court in 1;gate 0 to 1;gate 1 to 2;person at 2;");
        Check.part("22: likewise NONE, -2");
        due("too far", late.every(0), NONE);
        due("too far, which", late.every(1), NONE);
        due("no gate", Check.townOf("town hours 9;court in 0;person at 1;").every(0), NONE);
        due("what 2", two.every(2), -2);
        due("what -1", two.every(-1), -2);
        due("no TOWN", new NameGate().every(0), -2);
        Check.part("22: one need not be in all of them on one way");
        NameGate choice = Check.townOf("town hours 1;court in 0;court in 0;gate 0 to 1;gate 0 to 2;person at 1;person at 2;");
        due("each in the one HOUR", choice.every(1), 3);
    }

    private static void ways() {
        NameGate gate = town("town hours 3;court in 0;gate 0 to 1;gate 0 to 1;person at 1;person at 1;", 3);
        Check.part("23: through each GATE, and to stay, is a way of its own; NAMES are not told apart");
        due("two gates", gate.ways(0, 0, 1, 1), 2);
        due("to stay", gate.ways(0, 0, 0, 1), 1);
        due("two hours", gate.ways(0, 0, 0, 2), 5);
        gate.names(0);
        due("none in", gate.ways(0, 0, 1, 3), 0);
        due("one to stay", gate.ways(0, 0, 0, 3), 1);
        Check.part("23: modulo 1,000,000,007");
        NameGate many = town("town hours 48;court in 0;" + "gate 0 to 1;".repeat(16) + "person at 1;", 1);
        long[] numbers = {1, 0};
        for (int then = 1; then <= 48; then++) {
            long[] next = {numbers[0] + 16 * numbers[1], numbers[1] + 16 * numbers[0]};
            numbers = new long[] {next[0] % 1_000_000_007L, next[1] % 1_000_000_007L};
            due("to 1 at " + then, many.ways(0, 0, 1, then), numbers[1]);
            due("to 0 at " + then, many.ways(0, 0, 0, then), numbers[0]);
        }
        Check.part("23: -2 also when the second HOUR is not above the first");
        due("equal", gate.ways(0, 1, 0, 1), -2);
        due("below", gate.ways(0, 1, 0, 0), -2);
        due("one above", gate.ways(0, 1, 0, 2), 1);
        Check.part("23: (it may be the end)");
        due("the end", gate.ways(0, 2, 0, 3), 1);
        due("beyond the end", gate.ways(0, 2, 0, 4), -2);
        due("the first may not", gate.ways(0, 3, 0, 4), -2);
    }

    private static void out() {
        NameGate gate = town(NESTED, 3);
        Check.part("24: the fewest PEOPLE who must be outside all day");
        due("two", gate.out(0, 0, 1, 0), 2);
        due("nobody, it is never so anyway", gate.out(0, 3, 1, 0), 0);
        due("nobody, which", gate.out(0, 3, 1, 1), 0);
        gate.names(1);
        due("of those one knows", gate.out(0, 0, 1, 1), 1);
        gate.names(0);
        due("one knows none", gate.out(0, 0, 1, 0), 0);
        Check.part("24: (the least set of several, what 1)");
        NameGate chain = town("town hours 4;law here;court in 0;court in 1;gate 0 to 1;gate 1 to 2;"
            + "person at 0;person at 1;person at 2;", 7);
        due("either of two", chain.out(0, 0, 2, 1), 2);
        due("one", chain.out(0, 0, 2, 0), 1);
        NameGate pairs = town("town hours 4;law here;court in 0;court in 1;gate 0 to 1;gate 1 to 2;"
            + "person at 2;person at 1;person at 1;person at 1;", 15);
        due("one rather than three", pairs.out(0, 0, 2, 1), 1);
        NameGate ten = town("town hours 9;court in 0;gate 0 to 1;" + "person at 1;".repeat(10), 1023);
        due("all ten", ten.out(0, 0, 1, 0), 10);
        due("all ten, which", ten.out(0, 0, 1, 1), 1023);
        ten.names(576);
        due("of those one knows", ten.out(0, 0, 1, 1), 576);
        Check.part("24: one who has STRAYED is outside too then");
        gate.names(4);
        gate.strayed(4);
        due("he", gate.out(0, 0, 2, 1), 4);
        Check.part("24: NONE: even if all are");
        due("out of all", gate.out(2, 0, 0, 0), NONE);
        due("out of all, which", gate.out(2, 0, 0, 1), NONE);
        due("one is there", gate.out(1, 5, 1, 0), NONE);
        due("outside", gate.out(0, 0, 0, 1), NONE);
        due("in the last HOUR one can't be out of two", gate.out(2, 5, 0, 0), 0);
        Check.part("24: -2: there are none such");
        due("what 2", gate.out(0, 0, 1, 2), -2);
        due("what -1", gate.out(0, 0, 1, -1), -2);
        due("there, what 2", gate.out(0, 0, 0, 2), -2);
    }

    private static void alone() {
        NameGate gate = town(LATER, 15);
        Check.part("25: one who follows with other NAMES could not go through some GATE at that HOUR");
        due("he knows nobody", gate.alone(0, 0, 1, 0), 1);
        due("he knows that one too", gate.alone(0, 0, 1, 4), 3);
        due("he knows both", gate.alone(0, 0, 1, 6), NONE);
        due("he knows two others", gate.alone(0, 0, 1, 9), 1);
        due("he knows all", gate.alone(0, 0, 1, 15), NONE);
        gate.names(8);
        due("at the end of the day", gate.alone(0, 0, 1, 4), 8);
        due("in the last HOUR he can too", gate.alone(0, 7, 1, 1), NONE);
        Check.part("25: NONE: never");
        gate.names(0);
        due("one does not come there", gate.alone(0, 0, 1, 0), NONE);
        due("one is there, and nobody is shaken off", gate.alone(0, 0, 0, 0), NONE);
        due("no name is needed", gate.alone(1, 0, 0, 0), NONE);
        Check.part("25: some GATE, not the last one");
        NameGate far = town("town hours 9;law here;court in 0;court in 1;gate 0 to 1;gate 1 to 2;person at 1;person at 2;", 3);
        due("lost at the first", far.alone(0, 0, 2, 2), 2);
        due("lost at the second", far.alone(0, 0, 2, 1), 2);
        due("lost, then out again", far.alone(0, 0, 0, 0), 2);
        Check.part("25: -2: there are none such");
        due("follower 4", far.alone(0, 0, 1, 4), -2);
        due("follower -1", far.alone(0, 0, 1, -1), -2);
        due("HOUR 9", far.alone(0, 9, 1, 0), -2);
    }

    private static void both() {
        NameGate gate = town(NESTED, 0);
        Check.part("26: SOONEST two of like NAMES are both in a COURT");
        due("both are there", gate.both(2, 2, 5, 2), 5);
        due("one is there", gate.both(2, 1, 5, 2), 6);
        due("he needs two HOURS", gate.both(2, 0, 4, 2), 6);
        due("the other way about", gate.both(0, 2, 4, 2), 6);
        due("out of all", gate.both(2, 2, 4, 0), 6);
        Check.part("26: NONE: never");
        due("too late", gate.both(2, 0, 5, 2), NONE);
        due("nobody is inside", gate.both(0, 0, 0, 1), NONE);
        due("one can't be out in time", gate.both(0, 2, 5, 0), NONE);
        Check.part("26: -2: there are none such");
        due("one", gate.both(3, 0, 0, 0), -2);
        due("other", gate.both(0, 3, 0, 0), -2);
        due("HOUR", gate.both(0, 0, 6, 0), -2);
        due("to", gate.both(0, 0, 0, 3), -2);
        Check.part("27: -3: never without; NONE, -2 likewise");
        due("never without", gate.friend(2, 1, 0, 2), -3);
        due("never", gate.friend(0, 0, 0, 1), NONE);
        due("-2", gate.friend(0, 0, 6, 1), -2);
        due("-2 of other", gate.friend(0, 3, 0, 1), -2);
        due("0, both are there", gate.friend(2, 2, 0, 2), 0);
        due("0, no NAME is needed", gate.friend(2, 1, 0, 0), 0);
        Check.part("27: how many HOURS sooner");
        NameGate later = town(LATER, 8);
        due("seven", later.friend(1, 0, 0, 1), 7);
        due("none in the last HOUR", later.friend(1, 0, 7, 1), 0);
    }

    private static void teach() {
        NameGate gate = town(LATER, 1);
        Check.part("28: the NAME one does not know by which SOONEST would be soonest, sooner than it is");
        due("name", gate.teach(0, 0, 1, 0), 2);
        due("four HOURS", gate.teach(0, 0, 1, 1), 4);
        due("not as soon, but no sooner", gate.teach(0, 4, 1, 0), NONE);
        due("by one HOUR", gate.teach(0, 3, 1, 1), 1);
        due("one is there", gate.teach(1, 0, 1, 1), NONE);
        Check.part("28: the first of several");
        NameGate two = town("town hours 5;court in 0;gate 0 to 1;person at 0 from 2 at 1;person at 1;person at 1;", 1);
        due("1", two.teach(0, 0, 1, 0), 1);
        Check.part("28: -3: it is never now");
        gate.names(0);
        due("never now", gate.teach(0, 0, 1, 1), -3);
        due("by whom", gate.teach(0, 0, 1, 0), 2);
        due("at the last HOUR the first of several", gate.teach(0, 7, 1, 0), 0);
        due("never now, at the last HOUR", gate.teach(0, 7, 1, 1), -3);
        Check.part("28: NONE: by none");
        gate.names(15);
        due("all are known", gate.teach(0, 0, 1, 0), NONE);
        due("all are known, HOURS", gate.teach(0, 0, 1, 1), NONE);
        due("nobody is there", Check.townOf("town hours 3;court in 0;gate 0 to 1;").teach(0, 0, 1, 1), NONE);
        Check.part("28: -2: there are none such");
        due("what 2", gate.teach(0, 0, 1, 2), -2);
        due("what -1", gate.teach(0, 0, 1, -1), -2);
        due("HOUR", gate.teach(0, 8, 1, 0), -2);
    }

    private static void host() {
        NameGate gate = town(NESTED, 1);
        Check.part("29: the COURT by which SOONEST (by NAMES one knows) would be soonest");
        due("in 2 he opens both", gate.host(0, 0, 0, 2, 0), 2);
        due("that HOUR", gate.host(0, 0, 4, 2, 1), 6);
        Check.part("29: the first of several (what 0)");
        due("in 1 or 2", gate.host(0, 0, 5, 1, 0), 1);
        due("that HOUR is the end", gate.host(0, 0, 5, 1, 1), 6);
        due("anywhere, one is there", gate.host(0, 2, 5, 2, 0), 0);
        due("that very HOUR", gate.host(0, 2, 5, 2, 1), 5);
        due("anywhere, none is needed", gate.host(0, 2, 4, 0, 0), 0);
        due("anywhere, he is not known", gate.host(1, 0, 0, 1, 0), 0);
        Check.part("29: one who has STRAYED would be there too");
        gate.names(4);
        gate.strayed(4);
        due("in 2", gate.host(2, 0, 0, 2, 0), 2);
        gate.strayed(0);
        due("in 2, though told outside", gate.host(2, 0, 0, 2, 0), 2);
        due("in two HOURS", gate.host(2, 0, 0, 2, 1), 2);
        Check.part("29: NONE: by none");
        due("too late", gate.host(2, 0, 5, 2, 0), NONE);
        due("too late, HOUR", gate.host(2, 0, 5, 2, 1), NONE);
        due("he is not known", gate.host(0, 0, 0, 1, 0), NONE);
        Check.part("29: -2: there are none such");
        due("person", gate.host(3, 0, 0, 1, 0), -2);
        due("what 2", gate.host(0, 0, 0, 1, 2), -2);
        due("what -1", gate.host(0, 0, 0, 1, -1), -2);
        due("HOUR", gate.host(0, 0, 6, 1, 0), -2);
    }

    private static void three() {
        NameGate gate = town(NESTED, 0);
        Check.part("30: SOONEST three who know one another are all in a COURT");
        due("all are there", gate.three(2, 2, 2, 5, 2), 5);
        due("two are", gate.three(2, 2, 1, 5, 2), 6);
        due("the third opens to both", gate.three(0, 0, 2, 4, 2), 6);
        due("the first does", gate.three(2, 0, 0, 4, 2), 6);
        due("the second does", gate.three(0, 2, 0, 4, 2), 6);
        Check.part("30: NONE, -2 likewise");
        due("too late", gate.three(0, 0, 2, 5, 2), NONE);
        due("nobody is inside", gate.three(0, 0, 0, 0, 1), NONE);
        due("one", gate.three(3, 0, 0, 0, 1), -2);
        due("other", gate.three(0, 3, 0, 0, 1), -2);
        due("third", gate.three(0, 0, 3, 0, 1), -2);
        due("HOUR", gate.three(0, 0, 0, 6, 1), -2);
        due("to", gate.three(0, 0, 0, 0, 3), -2);
        Check.part("30: as BOTH: by NAMES one knows as well");
        NameGate later = town(LATER, 8);
        due("in the last HOUR", later.three(0, 0, 0, 0, 1), 8);
        due("sooner by the one who is inside", later.three(0, 0, 1, 0, 1), 1);
        later.names(1);
        due("as soon as it opens", later.three(0, 0, 0, 0, 1), 5);
        Check.part("30: outside");
        due("from three COURTS", gate.three(2, 1, 0, 4, 0), 6);
        due("too late", gate.three(2, 1, 0, 5, 0), NONE);
        due("all are there", gate.three(0, 0, 0, 5, 0), 5);
        Check.part("30: in the greatest town");
        NameGate all = town(Text.greatest(), 1023);
        due("in the last HOUR", all.three(0, 0, 0, 47, 1), 48);
        due("to the deepest", all.three(0, 4, 9, 0, 9), 9);
        due("to the deepest at the end", all.three(0, 4, 9, 39, 9), 48);
        due("an HOUR too late", all.three(0, 4, 9, 40, 9), NONE);
    }

    private static void vital() {
        NameGate gate = town(NESTED, 3);
        Check.part("31: without any single one of which one never comes");
        due("both", gate.vital(0, 0, 2), 3);
        due("in the last HOUR", gate.vital(2, 5, 1), 2);
        due("both, out", gate.vital(2, 0, 0), 3);
        due("out of one", gate.vital(1, 0, 0), 1);
        NameGate twice = town("town hours 3;court in 0;gate 0 to 1;gate 0 to 1;person at 1;", 1);
        due("either of two", twice.vital(0, 0, 1), 0);
        NameGate slow = town("town hours 3;court in 0;court in 0;gate 0 to 1;gate 1 to 2;gate 0 to 2;person at 1;person at 2;", 3);
        due("there is a longer way", slow.vital(0, 0, 2), 0);
        due("there is no time for it", slow.vital(0, 2, 2), 4);
        NameGate last = town(Text.HOURS + Text.COURT + "court in 1;" + "gate 0 to 1;".repeat(15) + "gate 1 to 2;person at 2;", 1);
        due("the sixteenth", last.vital(0, 0, 2), 1 << 15);
        Check.part("31: (0, if one is there)");
        due("there", gate.vital(2, 5, 2), 0);
        due("outside", gate.vital(0, 0, 0), 0);
        Check.part("31: NONE: never at all; -2: there are none such");
        due("never", gate.vital(0, 3, 1), NONE);
        due("HOUR", gate.vital(0, 6, 1), -2);
        due("to", gate.vital(0, 0, 3), -2);
    }

    private static void tell() {
        String text = "town hours 3;court in 0;court in 0;court in 0;gate 0 to 1;gate 0 to 2;gate 1 to 3;gate 2 to 3;"
            + "person at 1 strays 40 to 2;person at 3;person at 0 strays 50 to 0;";
        NameGate gate = town(text, 7);
        Check.part("32: how much greater ODDS would be, on the mean");
        due("40 of a hundred", gate.tell(0, 0, 0, 3, 2), 400_000_000);
        due("with time to try it is worth nothing", gate.tell(0, 0, 0, 3, 3), 0);
        due("in too little time too", gate.tell(0, 0, 0, 3, 1), 0);
        due("one is there", gate.tell(0, 3, 0, 3, 0), 0);
        due("it makes no difference", gate.tell(2, 0, 0, 3, 2), 0);
        Check.part("32: 0, if that is known, or he never strays");
        due("never strays", gate.tell(1, 0, 0, 3, 2), 0);
        gate.hear(0, 1, 0, true);
        due("known not to have", gate.tell(0, 0, 0, 3, 2), 0);
        gate.forget();
        gate.hear(0, 1, 0, false);
        due("known to have", gate.tell(0, 0, 0, 3, 2), 0);
        gate.forget();
        due("not known any more", gate.tell(0, 0, 0, 3, 2), 400_000_000);
        Check.part("32: -2: there are none such");
        due("person", gate.tell(3, 0, 0, 3, 2), -2);
        due("by 4", gate.tell(0, 0, 0, 3, 4), -2);
        due("never strays, by 4", gate.tell(1, 0, 0, 3, 4), -2);
        Check.part("32: (100 less N) times ODDS if he has not, and N times ODDS if he has");
        NameGate gone = town("town hours 3;court in 0;gate 0 to 1;person at 1 strays 40 to 0;", 1);
        due("nothing can be done about it", gone.tell(0, 0, 0, 1, 3), 0);
        NameGate pair = town("town hours 3;court in 0;gate 0 to 1;person at 1 strays 30 to 0;person at 1 strays 60 to 0;", 3);
        due("of the first", pair.tell(0, 0, 0, 1, 1), 700_000_000 + 300_000_000 * 4 / 10 - 700_000_000);
        due("of the second", pair.tell(1, 0, 0, 1, 1), 400_000_000 + 600_000_000 / 10 * 7 - 700_000_000);
        Check.part("33: The person of whom that is most");
        due("he", gate.tells(0, 0, 3, 2), 0);
        Check.part("33: NONE: it is above 0 of none");
        due("with time", gate.tells(0, 0, 3, 3), NONE);
        due("there", gate.tells(3, 0, 3, 0), NONE);
        gate.names(0);
        due("no NAMES", gate.tells(0, 0, 3, 2), NONE);
        due("-2", gate.tells(0, 0, 3, 4), -2);
        Check.part("33: the first of several");
        NameGate even = town("town hours 3;court in 0;gate 0 to 1;person at 0;person at 1 strays 50 to 0;"
            + "person at 1 strays 50 to 0;", 7);
        due("alike", even.tell(1, 0, 0, 1, 1) - even.tell(2, 0, 0, 1, 1), 0);
        due("the first", even.tells(0, 0, 1, 1), 1);
    }

    private static void until() {
        NameGate gate = town("town hours 4;court in 0;gate 0 to 1;person at 1 strays 50 to 0;person at 0 strays 50 to 1;"
            + "person at 0 from 3 at 1;", 3);
        Check.part("34: The first HOUR by which ODDS are so many of a hundred (1 .. 100) or more");
        due("1", gate.until(0, 0, 1, 1), 1);
        due("50 are 50", gate.until(0, 0, 1, 50), 1);
        due("51 by another try", gate.until(0, 0, 1, 51), 2);
        due("75", gate.until(0, 0, 1, 75), 2);
        due("one is there", gate.until(1, 3, 1, 100), 3);
        due("there, 1", gate.until(1, 0, 1, 1), 0);
        Check.part("34: NONE: by none");
        due("76", gate.until(0, 0, 1, 76), NONE);
        due("100", gate.until(0, 0, 1, 100), NONE);
        gate.names(7);
        due("100 by the end of the day", gate.until(0, 0, 1, 100), 4);
        due("100 from the last HOUR", gate.until(0, 3, 1, 100), 4);
        Check.part("34: -2: there are none such");
        due("0", gate.until(0, 0, 1, 0), -2);
        due("101", gate.until(0, 0, 1, 101), -2);
        due("there, 0", gate.until(1, 0, 1, 0), -2);
        due("there, 101", gate.until(1, 0, 1, 101), -2);
        due("HOUR", gate.until(0, 4, 1, 1), -2);
    }

    private static void empty() {
        NameGate gate = town("town hours 5;court in 0;court in 1;person at 2 from 1 at 1 from 2 at 0 from 3 at 2 from 4 at 0;"
            + "person at 0 strays 10 to 1;", 0);
        Check.part("35: The first HOUR from which a COURT is EMPTY (nobody WITHIN) to the last");
        due("the last HOUR alone", gate.empty(1), 4);
        due("deeper", gate.empty(2), 4);
        due("always", Check.townOf("town hours 3;court in 0;").empty(1), 0);
        Check.part("35: the number of HOURS, if it never is");
        due("never", gate.empty(0), 5);
        NameGate last = Check.townOf("town hours 5;court in 0;person at 0 from 4 at 1;");
        due("somebody comes in the last HOUR", last.empty(1), 5);
        Check.part("36: In how many HOURS a COURT is EMPTY");
        due("1", gate.hollow(1), 2);
        due("2", gate.hollow(2), 3);
        due("none", gate.hollow(0), 0);
        due("all", Check.townOf("town hours 3;court in 0;").hollow(1), 3);
        due("all but the last", last.hollow(1), 4);
        Check.part("37: The person who keeps it from being EMPTY in most HOURS by himself (nobody else WITHIN)");
        due("he", gate.keeper(1), 0);
        due("never by himself", gate.keeper(0), NONE);
        Check.part("37: the first of several; NONE: nobody does");
        NameGate turns = Check.townOf("town hours 4;court in 0;person at 0 from 2 at 1;person at 1 from 2 at 0;person at 0;");
        due("two HOURS each", turns.keeper(1), 0);
        due("nobody is there", Check.townOf("town hours 3;court in 0;").keeper(1), NONE);
        NameGate more = Check.townOf("town hours 4;court in 0;person at 1 from 1 at 0;person at 0 from 1 at 1;");
        due("three HOURS rather than one", more.keeper(1), 1);
        NameGate first = Check.townOf("town hours 4;court in 0;person at 0;person at 1 from 1 at 0;");
        due("the first HOUR alone", first.keeper(1), 1);
        NameGate end = Check.townOf("town hours 4;court in 0;person at 0;person at 0 from 3 at 1;");
        due("the last HOUR alone", end.keeper(1), 1);
        Check.part("35 to 37: in the greatest town");
        NameGate all = Check.townOf(Text.greatest());
        due("the deepest is never EMPTY", all.empty(9), 48);
        due("outside is never EMPTY", all.empty(0), 48);
        due("EMPTY in no HOUR", all.hollow(9), 0);
        due("the last keeps the deepest", all.keeper(9), 9);
        Check.part("35 to 37: as all are");
        gate.strayed(2);
        due("never EMPTY", gate.empty(1), 5);
        due("in no HOUR", gate.hollow(1), 0);
        due("he keeps it by himself in two HOURS", gate.keeper(1), 1);
        Check.part("35 to 37: -2: there is no such COURT");
        for (int court : new int[] {-1, 3}) {
            due("empty " + court, gate.empty(court), -2);
            due("hollow " + court, gate.hollow(court), -2);
            due("keeper " + court, gate.keeper(court), -2);
        }
    }

    private static void hear() {
        NameGate gate = town(NESTED, 7);
        Check.part("38: 1, if it is sure now where he is, else 0");
        due("both may be", gate.hear(2, 0, 0, true), 0);
        due("still not sure", gate.count(7), 0);
        due("he never strays", gate.hear(0, 1, 0, true), 1);
        due("he is not elsewhere", gate.hear(0, 2, 0, false), 1);
        due("strayed", gate.hear(2, 2, 5, true), 1);
        due("sure", gate.count(7), 4);
        due("sure already", gate.hear(2, 0, 0, true), 1);
        Check.part("38: -5, and nothing happens: it can't be so, by what was HEARD");
        String before = State.of(gate);
        due("he was there", gate.hear(2, 2, 0, false), -5);
        due("nor ever not within 1", gate.hear(2, 1, 3, false), -5);
        due("all are within 0", gate.hear(2, 0, 0, false), -5);
        due("one who never strays", gate.hear(0, 2, 0, true), -5);
        due("nor is he away", gate.hear(0, 1, 2, false), -5);
        Check.same("nothing happens", State.of(gate), before);
        gate.forget();
        due("it may be so again", gate.hear(2, 2, 0, false), 1);
        due("and is sure already", gate.hear(2, 1, 0, false), 1);
        due("nothing new", gate.hear(2, 0, 0, true), 1);
        due("now the other can't", gate.hear(2, 2, 0, true), -5);
        Check.part("38: -5 also if nothing was HEARD");
        NameGate fresh = town(NESTED, 7);
        due("neither place is so", fresh.hear(2, 0, 0, false), -5);
        due("one who never strays", fresh.hear(1, 2, 2, true), -5);
        due("he is, an HOUR ahead", fresh.hear(1, 2, 1, true), 1);
        due("nothing is sure by it", fresh.count(7), 0);
        Check.part("38: -2: there are none such");
        due("person", fresh.hear(3, 0, 0, true), -2);
        due("COURT", fresh.hear(2, 3, 0, false), -2);
        due("HOUR", fresh.hear(2, 0, 6, false), -2);
    }

    private static void forget() {
        NameGate gate = Check.townOf("town hours 2;court in 0;person at 0 strays 1 to 1;person at 0 strays 1 to 1;"
            + "person at 0 strays 1 to 1;person at 0 strays 1 to 1;person at 0;");
        Check.part("39: about how many it was sure by what was HEARD");
        due("none", gate.forget(), 0);
        for (int person = 0; person < 4; person++) {
            gate.hear(person, 1, 0, person % 2 == 0);
            gate.hear(person, 1, 1, person % 2 == 0);
        }
        gate.hear(4, 0, 0, true);
        due("sure", gate.count(7), 15);
        due("four", gate.forget(), 4);
        Check.part("39: Nothing is HEARD any more");
        due("none again", gate.forget(), 0);
        due("none sure", gate.count(7), 0);
        for (int person = 0; person < 4; person++) {
            due("thought of " + person, gate.think(person, 1, 0), 1);
            due("it may be otherwise now, " + person, gate.hear(person, 1, 0, person % 2 != 0), 1);
        }
        due("no TOWN", new NameGate().forget(), 0);
    }

    private static void think() {
        NameGate gate = town("town hours 3;court in 0;court in 0;person at 1 from 1 at 2 strays 1 to 2;"
            + "person at 1 strays 99 to 0;person at 1;", 0);
        Check.part("40: by how many of a hundred a person is WITHIN a COURT at an HOUR");
        due("99", gate.think(0, 1, 0), 99);
        due("1", gate.think(0, 2, 0), 1);
        due("100, either way", gate.think(0, 2, 1), 100);
        due("0, either way", gate.think(0, 1, 1), 0);
        due("1 of the other", gate.think(1, 1, 2), 1);
        due("100, who never strays", gate.think(2, 1, 2), 100);
        due("0, who never strays", gate.think(2, 2, 2), 0);
        due("100 outside, by deep", gate.think(1, 0, 0), 100);
        Check.part("40: not by TRUTH");
        gate.strayed(3);
        due("still", gate.think(0, 1, 0), 99);
        Check.part("40: -2: there are none such");
        due("person", gate.think(3, 0, 0), -2);
        due("COURT", gate.think(0, 3, 0), -2);
        due("HOUR", gate.think(0, 0, 3), -2);
    }

    private static void likely() {
        NameGate gate = town("town hours 3;court in 0;court in 0;gate 0 to 1;person at 0;person at 1 strays 60 to 0;"
            + "person at 0 strays 40 to 1;person at 0 strays 1 to 1;", 15);
        Check.part("41: the first of several (what 0), by how many of a hundred (what 1)");
        due("40 of two", gate.likely(0, 0, 0, 0), 1);
        due("parts", gate.likely(0, 0, 0, 1), 40);
        gate.names(9);
        due("1 is more than 0", gate.likely(0, 0, 0, 0), 3);
        due("1", gate.likely(0, 0, 0, 1), 1);
        gate.names(1);
        due("0 is most too", gate.likely(0, 0, 0, 0), 0);
        due("0", gate.likely(0, 0, 0, 1), 0);
        Check.part("41: NONE: it isn't there, none is needed, one knows none");
        for (int what = 0; what < 2; what++) {
            due("not there, what " + what, gate.likely(0, 2, 0, what), NONE);
            due("none is needed, what " + what, gate.likely(0, 1, 0, what), NONE);
            gate.names(0);
            due("knows none, what " + what, gate.likely(0, 0, 0, what), NONE);
            gate.names(1);
        }
        Check.part("41: -2: there are none such");
        due("what 2", gate.likely(0, 0, 0, 2), -2);
        due("what -1", gate.likely(0, 0, 0, -1), -2);
        due("not there, what 2", gate.likely(0, 2, 0, 2), -2);
        due("GATE", gate.likely(1, 0, 0, 0), -2);
        due("none is needed, no such HOUR", gate.likely(0, 1, 3, 0), -2);
    }

    private static void odds() {
        NameGate gate = town(NESTED, 4);
        Check.part("42: of 10 to the 9, that one comes to another one by an HOUR");
        due("nothing", gate.odds(0, 0, 2, 1), 0);
        due("40 of a hundred", gate.odds(0, 0, 2, 2), 400_000_000);
        due("all", gate.odds(2, 0, 0, 2), ALL);
        due("the last HOURS", gate.odds(0, 4, 2, 6), 400_000_000);
        due("too late", gate.odds(0, 5, 2, 6), 0);
        Check.part("42: -2: there are none such");
        due("by 7", gate.odds(0, 0, 2, 7), -2);
        due("by -1", gate.odds(0, 0, 2, -1), -2);
        due("HOUR 6", gate.odds(0, 6, 2, 6), -2);
        due("there, HOUR 6", gate.odds(0, 6, 0, 6), -2);
    }

    private static void best() {
        NameGate gate = town(NESTED, 4);
        Check.part("43: NONE to stay, else 100 times the GATE and the NAME (99: none is needed)");
        due("to stay", gate.best(0, 0, 2, 3), NONE);
        due("GATE 0, NAME 2", gate.best(0, 0, 2, 2), 2);
        due("GATE 1, NAME 2", gate.best(1, 5, 2, 6), 102);
        due("GATE 1, none", gate.best(2, 4, 0, 6), 199);
        due("GATE 0, none", gate.best(1, 5, 0, 6), 99);
        NameGate last = town(Text.HOURS + Text.COURT + "court in 1;" + "gate 0 to 1;".repeat(15) + "gate 1 to 2;"
            + "person at 0;".repeat(9) + "person at 2;", 512);
        due("the last GATE, the last NAME", last.best(1, 4, 2, 5), 1509);
        due("the last GATE, none", last.best(2, 4, 1, 5), 1599);
        Check.part("43: -3: one is there, or it is that HOUR");
        due("there", gate.best(2, 0, 2, 6), -3);
        due("that HOUR", gate.best(0, 3, 2, 3), -3);
        due("both", gate.best(2, 3, 2, 3), -3);
        due("the last HOUR", gate.best(0, 5, 2, 5), -3);
        Check.part("43: -2 likewise");
        due("there, by 7", gate.best(2, 0, 2, 7), -2);
        due("by ahead", gate.best(0, 3, 2, 2), -2);
        due("COURT", gate.best(3, 0, 3, 6), -2);
    }

    private static void sure() {
        NameGate gate = town(NESTED, 4);
        Check.part("44: ODDS, if one never tried a NAME that isn't sure");
        due("not sure", gate.sure(0, 0, 2, 6), 0);
        gate.hear(2, 2, 0, true);
        due("sure now", gate.sure(0, 0, 2, 2), ALL);
        due("in time", gate.sure(0, 0, 2, 1), 0);
        due("there", gate.sure(2, 3, 2, 3), ALL);
        gate.forget();
        gate.hear(2, 2, 0, false);
        due("surely not", gate.sure(0, 0, 2, 6), 0);
        due("-2", gate.sure(0, 0, 2, 7), -2);
        gate.forget();
        Check.part("45: LIST: ODDS, if one knew of all where they are");
        due("40 of a hundred", gate.list(0, 0, 2, 6), 400_000_000);
        due("-2", gate.list(0, 0, 2, 7), -2);
        due("-2, by ahead", gate.list(0, 2, 2, 1), -2);
        Check.part("46: LIST less ODDS");
        due("nothing", gate.price(0, 0, 2, 6), 0);
        due("there", gate.price(2, 0, 2, 0), 0);
        due("-2", gate.price(0, 0, 2, 7), -2);
        NameGate choice = town("town hours 3;court in 0;court in 0;court in 0;gate 0 to 1;gate 0 to 2;gate 1 to 3;"
            + "gate 2 to 3;person at 1 strays 40 to 2;person at 3;", 3);
        due("what a list would save", choice.price(0, 0, 3, 2), 400_000_000);
        due("nothing to save", choice.price(0, 0, 3, 3), 0);
        due("no time at all", choice.price(0, 0, 3, 1), 0);
    }

    private static void begin() {
        NameGate gate = town(LATER, 4);
        Check.part("47: The HOUR of a to b by which ODDS are greatest; the first of several");
        due("the first HOUR alone", gate.begin(0, 1, 0, 7), 0);
        due("never: the first", gate.begin(0, 1, 1, 7), 1);
        due("one HOUR", gate.begin(0, 1, 7, 7), 7);
        due("the first one HOUR", gate.begin(0, 1, 0, 0), 0);
        due("there", gate.begin(1, 1, 3, 5), 3);
        gate.names(8);
        due("whoever begins sooner can stay", gate.begin(0, 1, 2, 7), 2);
        Check.part("47: -2: there are none such");
        due("a above b", gate.begin(0, 1, 4, 3), -2);
        due("b the end", gate.begin(0, 1, 0, 8), -2);
        due("a below 0", gate.begin(0, 1, -1, 3), -2);
        due("from", gate.begin(2, 1, 0, 3), -2);
        due("to", gate.begin(0, 2, 0, 3), -2);
    }
}
