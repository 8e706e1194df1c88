/** Promises 48 to 57 and the SLOTS of Term I: each sentence that names a boundary case, by its own words. */
public final class RowEdgeTest {
    private static final int NONE = NameGate.NONE;

    /** Court 2 lies in 1; person 0 is in 1 to hour 2, 1 in 2 to hour 1, 2 may stray to 2. */
    private static final String NESTED = "town hours 6;court in 0;court in 1;gate 0 to 1;gate 1 to 2;"
        + "person at 1 from 3 at 0;person at 2 from 2 at 0;person at 0 strays 40 to 2;false 1;";

    private RowEdgeTest() {
    }

    public static void main(String[] args) {
        judge();
        whatCannotBe();
        dayIsOver();
        ends();
        truth();
        draw();
        days();
        count();
        keep();
        back();
        slots();
        row();
        write();
        widths();
        paste();
        pasteOwn();
        Check.finish();
    }

    private static void due(String call, long got, long want) {
        Check.due(call, got, want);
    }

    private static NameGate day(int names, long... tries) {
        return dayOf(NESTED, names, tries);
    }

    private static NameGate dayOf(String text, int names, long... tries) {
        NameGate gate = Check.townOf(text);
        gate.names(names);
        fill(gate, 0, 2, tries);
        return gate;
    }

    private static void fill(NameGate gate, int slot, int width, long... numbers) {
        gate.row(slot, width, numbers.length);
        for (int i = 0; i < numbers.length; i++) {
            due("write", gate.write(slot, i, numbers[i]), 0);
        }
    }

    private static void judge() {
        Check.part("48: as many as there are, if none");
        due("none at all", day(7).judge(0), 0);
        due("one", day(7, 0).judge(0), 1);
        due("two", day(7, 0, 101).judge(0), 2);
        due("all day", day(7, 0, 101, 199, 99, -1, -1).judge(0), 6);
        Check.part("48: (NONE: to stay)");
        due("staying", day(0, -1, -1, -1).judge(0), 3);
        Check.part("48: from outside, at HOUR 0");
        due("gate 0 is there", day(1, 0).judge(0), 1);
        due("gate 1 is not", day(1, 100).judge(0), 0);
        Check.part("48: the first place at which it can't be");
        due("the first of two", day(7, 0, 500, 500).judge(0), 1);
        due("what comes behind it counts for nothing", day(7, 500, 0, 101).judge(0), 0);
        due("the last one", day(7, 0, 101, 199, 99, -1, 500).judge(0), 5);
        Check.part("48: -2: there is no such SLOT, no TOWN");
        due("4", day(7).judge(4), -2);
        due("-1", day(7).judge(-1), -2);
        NameGate none = new NameGate();
        due("no TOWN, nothing", none.judge(0), -2);
        none.row(0, 0, 0);
        due("no TOWN, a row", none.judge(0), -2);
        Check.part("48: -6: it has nothing");
        due("1", day(7).judge(1), -6);
        due("3", day(7).judge(3), -6);
    }

    private static void whatCannotBe() {
        Check.part("48: there is no such GATE");
        due("200", day(7, 200).judge(0), 0);
        due("299", day(7, 299).judge(0), 0);
        due("-2", day(7, -2).judge(0), 0);
        due("-100", day(7, -100).judge(0), 0);
        due("least of four bytes", day(7, Integer.MIN_VALUE).judge(0), 0);
        due("greatest of four bytes", day(7, Integer.MAX_VALUE).judge(0), 0);
        NameGate all = dayOf(Text.HOURS + Text.COURT + Text.GATE.repeat(16) + "person at 1;", 1, 1500, 1599, 1600);
        due("15 is, 16 isn't", all.judge(0), 2);
        NameGate bare = dayOf("town hours 2;", 0, -1, 0);
        due("no GATE at all", bare.judge(0), 1);
        Check.part("48: or not there");
        due("behind another", day(7, 101).judge(0), 0);
        due("one left it", day(7, 0, 101, 0).judge(0), 2);
        due("not there, no NAME", day(7, 199).judge(0), 0);
        Check.part("48: no such NAME");
        due("3", day(7, 3).judge(0), 0);
        due("98", day(7, 98).judge(0), 0);
        due("99 where one is needed", day(7, 99).judge(0), 0);
        Check.part("48: one that is not known");
        due("1 of 0 and 2", day(5, 1).judge(0), 0);
        due("1 of 1", day(2, 1).judge(0), 1);
        due("known to nobody", day(0, 0).judge(0), 0);
        Check.part("48: a NAME where none is needed");
        due("known, within", day(7, 0, 1).judge(0), 1);
        due("none", day(7, 0, 99).judge(0), 2);
        due("no such NAME", day(7, 0, 98).judge(0), 1);
        Check.part("48: a NAME that does not open can be, and is told no");
        due("told no", day(4, 2).judge(0), 1);
        due("still outside", day(4, 2).ends(0, 0), 0);
    }

    private static void dayIsOver() {
        Check.part("48: or the day is over");
        due("six HOURS", day(0, -1, -1, -1, -1, -1, -1).judge(0), 6);
        due("a seventh", day(0, -1, -1, -1, -1, -1, -1, -1).judge(0), 6);
        due("noes of two HOURS each", day(4, 2, 2, 2).judge(0), 3);
        due("a fourth", day(4, 2, 2, 2, 2).judge(0), 3);
        due("to stay is over too", day(4, 2, 2, 2, -1).judge(0), 3);
        due("the last no is longer than the day", day(4, -1, 2, 2, 2, -1).judge(0), 4);
        due("a GATE in the last HOUR", day(1, 0, -1, -1, -1, -1, 99).judge(0), 6);
        due("a GATE behind it", day(1, 0, -1, -1, -1, -1, -1, 99).judge(0), 6);
        NameGate longest = dayOf("town hours 48;", 0);
        longest.row(1, 0, 60);
        for (int i = 0; i < 60; i++) {
            longest.write(1, i, -1);
        }
        due("48 of 60", longest.judge(1), 48);
        due("HOUR 48", longest.ends(1, 1), 48);
    }

    private static void ends() {
        Check.part("49: The COURT in which one is behind these (ahead of the first that can't be)");
        due("nothing done", day(7).ends(0, 0), 0);
        due("in", day(7, 0, 101).ends(0, 0), 2);
        due("ahead of the first that can't be", day(7, 0, 101, 0, 199).ends(0, 0), 2);
        due("at once", day(7, 500).ends(0, 0), 0);
        Check.part("49: the HOUR then");
        due("nothing done", day(7).ends(0, 1), 0);
        due("two", day(7, 0, 101).ends(0, 1), 2);
        due("ahead of the first that can't be", day(7, 0, 500, -1).ends(0, 1), 1);
        due("the end", day(0, -1, -1, -1, -1, -1, -1, -1).ends(0, 1), 6);
        due("no more than the end", day(4, -1, 2, 2, 2).ends(0, 1), 6);
        Check.part("49: how many were told no");
        due("none", day(7, 0, 101).ends(0, 2), 0);
        due("two", day(4, 2, 2).ends(0, 2), 2);
        due("ahead of the first that can't be", day(4, 2, 500, 2).ends(0, 2), 1);
        due("what can't be isn't told no", day(4, 500).ends(0, 2), 0);
        Check.part("49: -2, -6 likewise");
        NameGate gate = day(7);
        for (int what = 0; what < 3; what++) {
            due("slot 4", gate.ends(4, what), -2);
            due("slot -1", gate.ends(-1, what), -2);
            due("nothing", gate.ends(1, what), -6);
            due("no TOWN", new NameGate().ends(0, what), -2);
        }
        due("what 3", gate.ends(0, 3), -2);
        due("what -1", gate.ends(0, -1), -2);
    }

    private static void truth() {
        Check.part("48, 49: by TRUTH");
        NameGate gate = day(4, 2, 102);
        due("told no", gate.ends(0, 2), 1);
        due("the second isn't there", gate.judge(0), 1);
        gate.strayed(4);
        due("he has STRAYED", gate.judge(0), 2);
        due("in", gate.ends(0, 0), 2);
        gate.strayed(0);
        gate.hear(2, 2, 0, true);
        due("not by what is HEARD", gate.judge(0), 1);
    }

    private static void draw() {
        NameGate gate = Check.townOf(NESTED);
        Check.part("50: a seed (0 .. 2,000,000,000)");
        due("0", gate.draw(0), 4);
        due("-1", gate.draw(-1), -2);
        due("least", gate.draw(Integer.MIN_VALUE), -2);
        due("2,000,000,000", gate.draw(2_000_000_000), 4);
        due("2,000,000,001", gate.draw(2_000_000_001), -2);
        due("greatest", gate.draw(Integer.MAX_VALUE), -2);
        Check.part("50: (TRUTH stays)");
        due("nobody has STRAYED", gate.strayed(4), 0);
        gate.draw(3);
        due("he has", gate.strayed(0), 4);
        due("nothing is HEARD by it", gate.count(7), 0);
        Check.part("50: nobody may stray");
        due("no bits", Check.townOf(Text.HOURS + Text.PERSON).draw(0), 0);
        Check.part("50: -2: there are none such, no TOWN");
        due("no TOWN", new NameGate().draw(0), -2);
    }

    private static void days() {
        NameGate gate = Check.townOf("town hours 3;court in 0;gate 0 to 1;person at 0 strays 39 to 1;");
        gate.names(1);
        Check.part("51: Of n days (1 .. 100)");
        due("0", gate.days(1, 0, 0, 1, 3), -2);
        due("1", gate.days(1, 1, 0, 1, 3), 1);
        due("100, one is there", gate.days(1, 100, 1, 1, 0), 100);
        due("101", gate.days(1, 101, 1, 1, 0), -2);
        due("-1", gate.days(1, -1, 1, 1, 0), -2);
        Check.part("51: from seeds, the seed and 1, ..");
        int number = 0;
        for (int n = 1; n <= 100; n++) {
            number += gate.draw(n - 1);
            due("n " + n, gate.days(0, n, 0, 1, 3), number);
        }
        due("the seed alone", gate.days(3, 1, 0, 1, 3), 0);
        due("the next one", gate.days(3, 2, 0, 1, 3), 1);
        Check.part("51: seeds as in promise 50");
        due("-1", gate.days(-1, 1, 1, 1, 0), -2);
        due("the last", gate.days(2_000_000_000, 1, 1, 1, 0), 1);
        due("beyond it", gate.days(2_000_000_001, 1, 1, 1, 0), -2);
        due("greatest", gate.days(Integer.MAX_VALUE, 1, 1, 1, 0), -2);
        Check.part("51: from a COURT at HOUR 0 .. by an HOUR");
        due("by 0", gate.days(1, 1, 0, 1, 0), 0);
        due("by 1", gate.days(1, 1, 0, 1, 1), 1);
        due("by the end", gate.days(1, 1, 0, 1, 3), 1);
        due("by 4", gate.days(1, 1, 0, 1, 4), -2);
        due("by -1", gate.days(1, 1, 0, 1, -1), -2);
        due("from 2", gate.days(1, 1, 2, 1, 3), -2);
        due("to 2", gate.days(1, 1, 0, 2, 3), -2);
        due("no TOWN", new NameGate().days(1, 1, 0, 0, 0), -2);
        NameGate late = Check.townOf("town hours 48;court in 0;gate 0 to 1;person at 0 from 47 at 1;");
        late.names(1);
        due("in the last of 48 HOURS", late.days(0, 100, 0, 1, 48), 100);
        due("too late for by 47", late.days(0, 100, 0, 1, 47), 0);
    }

    private static void count() {
        NameGate gate = Check.townOf(NESTED);
        int[] want = {3, 6, 2, 3, 9, 0, 4, 0, 1, 1, 0};
        Check.part("52: 0 COURTS (with outside; 0 without a TOWN) .. 10 SLOTS that have a row");
        for (int what = 0; what < want.length; what++) {
            due("what " + what, gate.count(what), want[what]);
            due("without, what " + what, new NameGate().count(what), 0);
        }
        Check.part("52: 5 bytes of the TAPE");
        gate.feed(0, 0, 0, 0, 0);
        due("twenty", gate.count(5), 20);
        gate.end(19);
        due("one less", gate.count(5), 19);
        Check.part("52: 7 those about whom it is sure by what was HEARD");
        gate.hear(2, 2, 0, false);
        gate.hear(0, 1, 0, true);
        due("him who may stray", gate.count(7), 4);
        due("6 is not changed", gate.count(6), 4);
        Check.part("52: 10 SLOTS that have a row");
        for (int slot = 0; slot < 4; slot++) {
            gate.row(slot, 0, 0);
            due("with slot " + slot, gate.count(10), slot + 1);
        }
        gate.row(2, 1, 60);
        due("in place of another one", gate.count(10), 4);
        Check.part("52: NONE for others");
        due("11", gate.count(11), NONE);
        due("-1", gate.count(-1), NONE);
        due("without a TOWN", new NameGate().count(11), NONE);
        due("greatest", gate.count(Integer.MAX_VALUE), NONE);
        due("least", gate.count(Integer.MIN_VALUE), NONE);
    }

    private static void keep() {
        NameGate gate = Check.townOf(NESTED);
        Check.part("53: IMAGE k (0 .. 2) keeps TOWN, STRAYED, NAMES, what is HEARD: 0");
        for (int k = 0; k < 3; k++) {
            gate.names(k + 1);
            due("keep " + k, gate.keep(k), 0);
        }
        for (int k = 0; k < 3; k++) {
            due("back " + k, gate.back(k), 0);
            due("its names", gate.names(0), k + 1);
        }
        Check.part("53: in place of what it had");
        gate.names(7);
        due("again", gate.keep(1), 0);
        gate.names(0);
        gate.back(1);
        due("the later one", gate.names(0), 7);
        Check.part("53: -2: no such k");
        due("3", gate.keep(3), -2);
        due("-1", gate.keep(-1), -2);
        Check.part("53: no TOWN is kept too");
        NameGate none = new NameGate();
        due("keep", none.keep(0), 0);
        due("town", Check.load(none, NESTED), 9);
        due("back", none.back(0), 0);
        due("no COURT", none.count(0), 0);
        due("no HOUR", none.where(0, 0), -2);
    }

    private static void back() {
        NameGate gate = Check.townOf(NESTED);
        Check.part("54: -2: no such k; -6: it has nothing");
        for (int k = 0; k < 3; k++) {
            due("nothing in " + k, gate.back(k), -6);
        }
        due("3", gate.back(3), -2);
        due("-1", gate.back(-1), -2);
        gate.names(5);
        gate.strayed(4);
        gate.hear(2, 1, 0, true);
        String before = State.of(gate);
        gate.keep(2);
        due("0 has nothing still", gate.back(0), -6);
        due("1 has nothing still", gate.back(1), -6);
        Check.same("nothing happens", State.of(gate), before);
        Check.part("54: These are as IMAGE k has them: 0");
        Check.load(gate, "town hours 48;court in 0;person at 1;law here;false 9;");
        gate.names(1);
        due("back", gate.back(2), 0);
        Check.same("as it was", State.of(gate), before);
        Check.part("54: an IMAGE stays as it was kept");
        gate.names(0);
        gate.strayed(0);
        gate.forget();
        due("back again", gate.back(2), 0);
        Check.same("as it was", State.of(gate), before);
        gate.hear(2, 2, 3, true);
        gate.forget();
        due("once more", gate.back(2), 0);
        due("HEARD", gate.count(7), 4);
        Check.part("54: TAPE, FAULT and SLOTS are not in it");
        gate.feed(0, 0, 0, 0, 0);
        gate.row(3, 2, 7);
        gate.back(2);
        due("TAPE", gate.count(5), 20);
        due("SLOTS", gate.count(10), 1);
        gate.town();
        due("a FAULT", gate.fault(0), 1);
        gate.back(2);
        due("the same FAULT", gate.fault(0), 1);
    }

    private static void slots() {
        Check.part("I: SLOTS 0 .. 3 have rows .. or nothing");
        NameGate gate = new NameGate();
        for (int slot = 0; slot < 4; slot++) {
            due("nothing", gate.write(slot, 0, 0), -6);
        }
        due("4", gate.write(4, 0, 0), -2);
        due("-1", gate.write(-1, 0, 0), -2);
        Check.part("I: numbers of 1, 2, 4 or 8 bytes (WIDTH 0 .. 3)");
        for (int width = 0; width < 4; width++) {
            due("width " + width, gate.row(0, width, 1), 0);
        }
        due("width 4", gate.row(0, 4, 1), -2);
        due("width -1", gate.row(0, -1, 1), -2);
        Check.part("I: at most 60");
        for (int width = 0; width < 4; width++) {
            due("60 of width " + width, gate.row(width, width, 60), 0);
            due("the last", gate.write(width, 59, 1), 0);
            due("none behind it", gate.write(width, 60, 1), -7);
            due("61 of width " + width, gate.row(width, width, 61), -2);
        }
    }

    private static void row() {
        Check.part("55: A SLOT has a row of n numbers of a WIDTH, all 0 (in place of another one)");
        NameGate gate = dayOf("town hours 48;court in 0;gate 0 to 1;person at 0;", 1);
        fill(gate, 1, 0, -1, -1, -1);
        due("staying", gate.ends(1, 2), 0);
        due("in place of it", gate.row(1, 0, 3), 0);
        due("all 0: told no", gate.ends(1, 2), 3);
        due("sixty", gate.row(1, 3, 60), 0);
        due("all 0", gate.ends(1, 2), 48);
        fill(gate, 1, 3, -1, -1);
        due("longer again", gate.row(1, 3, 5), 0);
        due("what was cut off is 0 too", gate.ends(1, 2), 5);
        due("none", gate.row(1, 2, 0), 0);
        due("none is a row", gate.judge(1), 0);
        due("it has no number", gate.write(1, 0, 0), -7);
        Check.part("55: -2: there is no such SLOT or WIDTH (0 .. 3), or n is above 60");
        fill(gate, 2, 1, -1, -1);
        due("slot 4", gate.row(4, 0, 1), -2);
        due("slot -1", gate.row(-1, 0, 1), -2);
        due("width 4", gate.row(2, 4, 1), -2);
        due("width -1", gate.row(2, -1, 1), -2);
        due("61", gate.row(2, 1, 61), -2);
        due("greatest", gate.row(2, 1, Integer.MAX_VALUE), -2);
        due("the SLOT stays", gate.judge(2), 2);
        due("its numbers too", gate.ends(2, 2), 0);
        Check.part("55: -3, and the SLOT stays: n is below 0");
        due("-1", gate.row(2, 1, -1), -3);
        due("least", gate.row(2, 1, Integer.MIN_VALUE), -3);
        due("the SLOT stays", gate.judge(2), 2);
        due("its numbers too", gate.ends(2, 2), 0);
        due("one that has nothing", gate.row(3, 1, -1), -3);
        due("has nothing still", gate.judge(3), -6);
        due("-2 comes first, slot", gate.row(4, 1, -1), -2);
        due("-2 comes first, width", gate.row(2, 4, -1), -2);
    }

    private static void write() {
        NameGate gate = dayOf("town hours 48;court in 0;gate 0 to 1;person at 0;", 1, 0, 0, 0);
        Check.part("56: -7: there is no such number");
        due("-1", gate.write(0, -1, -1), -7);
        due("3", gate.write(0, 3, -1), -7);
        due("greatest", gate.write(0, Integer.MAX_VALUE, -1), -7);
        due("least", gate.write(0, Integer.MIN_VALUE, -1), -7);
        due("nothing happens", gate.ends(0, 2), 3);
        Check.part("56: Number i of the SLOT's row is v: 0");
        due("the last", gate.write(0, 2, -1), 0);
        due("one less is told no", gate.ends(0, 2), 2);
        due("the first", gate.write(0, 0, -1), 0);
        due("two less", gate.ends(0, 2), 1);
        due("the first again", gate.write(0, 0, 0), 0);
        due("one less", gate.ends(0, 2), 2);
        Check.part("56: -2: there is no such SLOT; -6: it has nothing");
        due("slot 4", gate.write(4, 0, 0), -2);
        due("slot -1", gate.write(-1, 0, 0), -2);
        due("nothing", gate.write(1, 0, 0), -6);
        due("nothing, no such number", gate.write(1, -1, 0), -6);
        due("no such SLOT, no such number", gate.write(4, -1, 0), -2);
    }

    private static void widths() {
        Check.part("56: cut to its WIDTH");
        NameGate gate = dayOf("town hours 48;court in 0;gate 0 to 1;person at 0;person at 1;", 3);
        for (int width = 0; width < 4; width++) {
            int bits = 8 << width;
            long above = width == 3 ? 0 : 1L << bits;
            expectTry(gate, width, 0, 1, 0);
            expectTry(gate, width, 1, 1, 1);
            expectTry(gate, width, -1, 1, 0);
            expectTry(gate, width, above, 1, 0);
            expectTry(gate, width, above + 1, 1, 1);
            expectTry(gate, width, -above + 1, 1, 1);
            expectTry(gate, width, above - 1, 1, 0);
            expectTry(gate, width, 2, 0, 0);
            expectTry(gate, width, (1L << bits - 1) - 1, 0, 0);
            expectTry(gate, width, 1L << bits - 1, 0, 0);
        }
        Check.part("56: what a lesser WIDTH would cut stays in a greater one");
        for (int width = 1; width < 4; width++) {
            expectTry(gate, width, (1L << (8 << width - 1)) + 1, 0, 0);
            expectTry(gate, width, (1L << (8 << width - 1)) - 1, 0, 0);
        }
    }

    private static void expectTry(NameGate gate, int width, long number, int place, int court) {
        gate.row(3, width, 1);
        due("write " + number, gate.write(3, 0, number), 0);
        due("width " + width + ", number " + number, gate.judge(3), place);
        due("COURT, width " + width + ", number " + number, gate.ends(3, 0), court);
    }

    private static void paste() {
        NameGate gate = dayOf("town hours 48;court in 0;gate 0 to 1;person at 0;", 1);
        fill(gate, 0, 1, -1, -1, -1, -1);
        fill(gate, 1, 1, 0, 0);
        fill(gate, 2, 2, 0, 0, 0, 0);
        Check.part("57: -2: there is no such SLOT");
        due("4", gate.paste(4, 0, 0, 0, 1), -2);
        due("-1", gate.paste(-1, 0, 0, 0, 1), -2);
        due("to 4", gate.paste(0, 0, 4, 0, 1), -2);
        due("to -1", gate.paste(0, 0, -1, 0, 1), -2);
        due("ahead of -6", gate.paste(3, 0, 4, 0, 1), -2);
        Check.part("57: -6: one has nothing");
        due("from", gate.paste(3, 0, 0, 0, 1), -6);
        due("to", gate.paste(0, 0, 3, 0, 1), -6);
        due("both", gate.paste(3, 0, 3, 0, 1), -6);
        due("ahead of -7", gate.paste(3, -1, 0, 0, 1), -6);
        Check.part("57: -8: they are not of one WIDTH");
        due("1 and 2", gate.paste(0, 0, 2, 0, 1), -8);
        due("2 and 1", gate.paste(2, 0, 0, 0, 1), -8);
        due("none of them", gate.paste(0, 0, 2, 0, 0), -8);
        due("ahead of -7", gate.paste(0, -1, 2, 0, 9), -8);
        Check.part("57: -7, and nothing happens: some are beyond their rows");
        due("from", gate.paste(1, 1, 0, 0, 2), -7);
        due("to", gate.paste(0, 0, 1, 1, 2), -7);
        due("more than there are", gate.paste(0, 0, 1, 0, 3), -7);
        due("from behind the end", gate.paste(0, 4, 1, 0, 1), -7);
        due("to behind the end", gate.paste(0, 0, 1, 2, 1), -7);
        due("far behind", gate.paste(0, Integer.MAX_VALUE, 1, 0, 1), -7);
        due("far behind, to", gate.paste(0, 0, 1, Integer.MAX_VALUE, 1), -7);
        due("far more", gate.paste(0, 1, 1, 1, Integer.MAX_VALUE), -7);
        Check.part("57: -7, and nothing happens: or a place or n is below 0");
        due("i", gate.paste(0, -1, 1, 0, 1), -7);
        due("k", gate.paste(0, 0, 1, -1, 1), -7);
        due("n", gate.paste(0, 0, 1, 0, -1), -7);
        due("i, least", gate.paste(0, Integer.MIN_VALUE, 1, 0, 1), -7);
        due("n, least", gate.paste(0, 1, 1, 1, Integer.MIN_VALUE), -7);
        due("i, of none", gate.paste(0, -1, 1, 0, 0), -7);
        due("nothing happens", gate.ends(1, 2), 2);
        due("nothing happens there", gate.ends(0, 2), 0);
        Check.part("57: none of them");
        due("at the begin", gate.paste(0, 0, 1, 0, 0), 0);
        due("at the end", gate.paste(0, 4, 1, 2, 0), 0);
        due("nothing is put", gate.ends(1, 2), 2);
        Check.part("57: So many numbers are put to another one's, from one on");
        due("one to the last place", gate.paste(0, 3, 1, 1, 1), 0);
        due("one told no less", gate.ends(1, 2), 1);
        due("all of it", gate.paste(0, 0, 1, 0, 2), 0);
        due("none told no", gate.ends(1, 2), 0);
        due("its length stays", gate.judge(1), 2);
    }

    private static void pasteOwn() {
        Check.part("57: (or its own) as they were");
        // 0 goes in, 99 out again, -1 stays.
        NameGate gate = dayOf("town hours 48;court in 0;gate 0 to 1;person at 1;", 1, 0, 99, -1, -1, -1);
        due("one place on", gate.paste(0, 0, 0, 1, 4), 0);
        gate.write(0, 0, -1);
        due("stay, in, out, stay, stay", gate.judge(0), 5);
        due("outside", gate.ends(0, 0), 0);
        due("one place back", gate.paste(0, 1, 0, 0, 4), 0);
        gate.write(0, 4, 0);
        due("in, out, stay, stay, in", gate.judge(0), 5);
        due("inside", gate.ends(0, 0), 1);
        due("to the same place", gate.paste(0, 0, 0, 0, 5), 0);
        due("as it was", gate.ends(0, 0), 1);
        due("the first two to the last two", gate.paste(0, 0, 0, 3, 2), 0);
        due("in, out, stay, in, out", gate.ends(0, 0), 0);
        due("all can be", gate.judge(0), 5);
        due("beyond its own", gate.paste(0, 0, 0, 1, 5), -7);
        due("still all can be", gate.judge(0), 5);
    }
}
