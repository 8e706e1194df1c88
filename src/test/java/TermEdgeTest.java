/** Terms II to VI: each sentence that names a boundary case, by its own words. */
public final class TermEdgeTest {
    private static final int NONE = NameGate.NONE;
    private static final long ALL = 1_000_000_000L;
    private static final String STRAYS_TO = "town hours 2;person at 0 strays ";

    private TermEdgeTest() {
    }

    public static void main(String[] args) {
        hours();
        within();
        free();
        endOfDay();
        by();
        soonest();
        way();
        thought();
        tries();
        afterNo();
        comeOrEnd();
        differences();
        notTried();
        likeOnes();
        list();
        both();
        draws();
        days();
        Check.finish();
    }

    private static void due(String call, long got, long want) {
        Check.due(call, got, want);
    }

    private static NameGate town(String text, int names) {
        NameGate gate = Check.townOf(text);
        gate.names(names);
        return gate;
    }

    private static void hours() {
        NameGate gate = town("town hours 6;court in 0;court in 0;person at 1 from 2 at 2 from 3 at 0 strays 9 to 1;", 0);
        Check.part("II: HOURS 0 .. hours less 1");
        due("0", gate.where(0, 0), 1);
        due("5", gate.where(0, 5), 0);
        due("6", gate.where(0, 6), -2);
        due("-1", gate.where(0, -1), -2);
        Check.part("II: in the COURT of the last from that is not above the HOUR (at, ahead of all)");
        due("ahead of all", gate.where(0, 1), 1);
        due("at the first from", gate.where(0, 2), 2);
        due("at the second", gate.where(0, 3), 0);
        due("behind it", gate.where(0, 4), 0);
        Check.part("II: one who has STRAYED is in that of strays all day");
        gate.strayed(1);
        for (int hour = 0; hour < 6; hour++) {
            due("hour " + hour, gate.where(0, hour), 1);
        }
    }

    private static void within() {
        String text = "court in 0;court in 1;court in 2;court in 1;person at 3;person at 4;person at 1;person at 0;";
        Check.part("II: WITHIN a COURT are those who are in it, and, by deep, those in COURTS that lie in it");
        NameGate deep = town("town hours 1;law deep;" + text, 0);
        int[] byDeep = {15, 7, 1, 1, 2};
        for (int court = 0; court < 5; court++) {
            due("deep, court " + court, deep.within(court, 0), byDeep[court]);
        }
        NameGate here = town("town hours 1;law here;" + text, 0);
        int[] byHere = {8, 4, 0, 1, 2};
        for (int court = 0; court < 5; court++) {
            due("here, court " + court, here.within(court, 0), byHere[court]);
        }
    }

    private static void free() {
        // 3 lies in 2, 2 in 1; 4 lies in 1.
        String text = "court in 0;court in 1;court in 2;court in 1;gate 3 to 2;gate 3 to 1;gate 3 to 0;gate 3 to 4;"
            + "person at 4;person at 0;person at 2;";
        Check.part("II: if this is one in which the former lies, no NAME is needed");
        NameGate gate = town("town hours 2;" + text, 0);
        due("the next one out", gate.opens(0, 3, 0, 0), 2);
        due("two out", gate.opens(1, 3, 0, 0), 2);
        due("outside", gate.opens(2, 3, 0, 0), 2);
        due("one beside", gate.opens(3, 3, 0, 0), 0);
        due("one in", gate.opens(0, 2, 0, 2), 0);
        due("nobody is within", gate.opens(0, 2, 0, 0), 0);
        due("one goes without names", gate.reach(3, 0), 15);
        Check.part("II: Else one must name somebody who is WITHIN that COURT at that HOUR, of the NAMES one knows");
        due("not known", gate.keys(3, 3, 0), 0);
        gate.names(7);
        due("known", gate.keys(3, 3, 0), 1);
        due("known, opens", gate.opens(3, 3, 0, 0), 1);
        due("known, not within", gate.opens(3, 3, 0, 1), 0);
        due("who is in the COURT one comes from is not within", gate.keys(0, 2, 0), 0);
        NameGate change = town("town hours 4;court in 0;gate 0 to 1;person at 0 from 1 at 1 from 2 at 0;", 1);
        int[] opens = {0, 1, 0, 0};
        for (int hour = 0; hour < 4; hour++) {
            due("at hour " + hour, change.opens(0, 0, hour, 0), opens[hour]);
        }
    }

    private static void endOfDay() {
        NameGate gate = town("town hours 3;court in 0;court in 1;gate 0 to 1;gate 1 to 2;person at 2;", 1);
        Check.part("III: the HOUR behind the last one ends the day: one may be in a COURT then");
        due("at the end", gate.soonest(0, 1, 2), 3);
        due("too late", gate.soonest(0, 2, 2), NONE);
        due("one gate in the last HOUR", gate.soonest(0, 2, 1), 3);
        due("reach in the last HOUR", gate.reach(0, 2), 3);
        due("the end is no HOUR to be at", gate.soonest(0, 3, 0), -2);
        due("ways to the end", gate.ways(0, 2, 1, 3), 1);
        due("odds by the end", gate.odds(0, 2, 1, 3), ALL);
        Check.part("III: each HOUR one stays, or goes through a GATE that is there, and is one HOUR on then");
        due("stays", gate.ways(0, 0, 0, 1), 1);
        due("not through a GATE that is elsewhere", gate.ways(0, 0, 2, 1), 0);
        due("no two GATES in one HOUR", gate.soonest(0, 0, 2), 2);
    }

    private static void by() {
        NameGate gate = town("town hours 5;court in 0;gate 0 to 1;person at 1;", 1);
        Check.part("III: An HOUR by which something is done is the HOUR it begins at");
        due("odds", gate.odds(0, 2, 1, 2), 0);
        due("odds, there", gate.odds(1, 2, 1, 2), ALL);
        due("fewest", gate.fewest(0, 2, 1, 2, 0), NONE);
        due("fewest, there", gate.fewest(1, 2, 1, 2, 0), 0);
        due("sure", gate.sure(1, 4, 1, 4), ALL);
        due("list", gate.list(0, 4, 1, 4), 0);
        due("tells", gate.tells(0, 4, 1, 4), NONE);
        due("days", gate.days(0, 1, 0, 1, 0), 0);
        Check.part("III: or one behind it, to the end");
        due("one behind", gate.odds(0, 2, 1, 3), ALL);
        due("the end", gate.odds(0, 4, 1, 5), ALL);
        due("fewest by the end", gate.fewest(0, 4, 1, 5, 1), 1);
        due("days by the end", gate.days(0, 1, 0, 1, 5), 1);
        Check.part("III: no other HOUR");
        due("ahead of it", gate.odds(0, 2, 1, 1), -2);
        due("beyond the end", gate.odds(0, 2, 1, 6), -2);
        due("there, but ahead of it", gate.odds(1, 2, 1, 1), -2);
        due("fewest ahead of it", gate.fewest(0, 2, 1, 1, 0), -2);
        due("fewest beyond the end", gate.fewest(0, 2, 1, 6, 0), -2);
    }

    private static void soonest() {
        NameGate gate = town("town hours 6;court in 0;gate 0 to 1;person at 0 from 3 at 1;", 1);
        Check.part("III: SOONEST: the first HOUR at which one can be there");
        due("as soon as it opens", gate.soonest(0, 0, 1), 4);
        due("at once then", gate.soonest(0, 3, 1), 4);
        due("later", gate.soonest(0, 5, 1), 6);
        Check.part("III: (that very HOUR, if one is there)");
        for (int hour = 0; hour < 6; hour++) {
            due("hour " + hour, gate.soonest(1, hour, 1), hour);
        }
    }

    private static void way() {
        Check.part("III: WAY: of all that come there at the SOONEST HOUR through the fewest GATES");
        // To 3, that opens at 3: by 1 and 2 (three gates), or by 4, which opens at hour 0 alone (two gates).
        NameGate few = town("town hours 9;court in 0;court in 0;court in 0;court in 0;gate 0 to 1;gate 1 to 2;"
            + "gate 2 to 3;gate 0 to 4;gate 4 to 3;person at 0 from 3 at 3;person at 1;person at 2;"
            + "person at 4 from 1 at 0;", 15);
        due("soonest", few.soonest(0, 0, 3), 4);
        due("gates", few.gates(0, 0, 3), 2);
        due("first", few.way(0, 0, 3, 0), 3);
        due("its name", few.way(0, 0, 3, 1), 3);
        due("its hour", few.way(0, 0, 3, 2), 0);
        due("an hour later by three", few.gates(0, 1, 3), 3);
        due("first then", few.way(0, 1, 3, 0), 0);
        due("at once, no hour is left", few.way(0, 1, 3, 2), 1);
        Check.part("III: that on which one stays as long as one can ahead of the first GATE");
        // To 3, that opens at 4: by 1 while it is open (hours 0 to 1), or by 2 (hours 0 to 2).
        NameGate stay = town("town hours 9;court in 0;court in 0;court in 0;gate 0 to 1;gate 0 to 2;gate 1 to 3;"
            + "gate 2 to 3;person at 1 from 2 at 0;person at 2 from 3 at 0;person at 0 from 4 at 3;", 7);
        due("soonest", stay.soonest(0, 0, 3), 5);
        due("the greater GATE, an hour later", stay.way(0, 0, 3, 0), 1);
        due("hour", stay.way(0, 0, 3, 2), 2);
        Check.part("III: then the least GATE");
        NameGate like = town("town hours 9;court in 0;court in 0;court in 0;gate 0 to 2;gate 0 to 1;gate 0 to 1;"
            + "gate 1 to 3;gate 2 to 3;person at 1;person at 2;person at 3;", 7);
        due("gate 0 to 2", like.way(0, 0, 3, 0), 0);
        like.names(5);
        due("of two alike the first", like.way(0, 0, 3, 0), 1);
    }

    private static void thought() {
        Check.part("IV: strays N of a hundred that he has, each for himself; others are where they are told");
        NameGate gate = town("town hours 3;court in 0;court in 0;person at 0 from 1 at 1 strays 30 to 2;"
            + "person at 1 strays 99 to 1;person at 2 from 2 at 0;", 7);
        due("told", gate.think(0, 0, 0), 100);
        due("may be there", gate.think(0, 2, 0), 30);
        due("told later", gate.think(0, 1, 1), 70);
        due("not told any more", gate.think(0, 1, 0), 0);
        due("strays to where he is", gate.think(1, 1, 0), 100);
        due("and nowhere else", gate.think(1, 2, 0), 0);
        due("never strays", gate.think(2, 2, 1), 100);
        due("never strays, gone", gate.think(2, 2, 2), 0);
        Check.part("IV: if it is not sure by what was HEARD");
        gate.hear(0, 2, 0, true);
        due("sure", gate.think(0, 2, 2), 100);
        due("the other is for himself", gate.think(1, 1, 0), 100);
        gate.forget();
        gate.hear(0, 2, 0, false);
        due("surely not", gate.think(0, 2, 2), 0);
        due("surely told", gate.think(0, 1, 2), 100);
    }

    private static void tries() {
        Check.part("IV: if yes, one is through, one HOUR on");
        NameGate gate = town("town hours 4;court in 0;gate 0 to 1;person at 1 strays 1 to 0;person at 0 strays 1 to 1;", 1);
        due("99 of a hundred", gate.odds(0, 3, 1, 4), 990_000_000);
        gate.names(2);
        due("1 of a hundred", gate.odds(0, 3, 1, 4), 10_000_000);
        gate.names(3);
        due("one try", gate.odds(0, 3, 1, 4), 990_000_000);
        due("two tries", gate.odds(0, 2, 1, 4), 990_100_000);
        Check.part("IV: one may stay until it opens");
        NameGate once = town("town hours 5;court in 0;gate 0 to 1;person at 0 from 1 at 1 from 2 at 0;", 1);
        due("for one HOUR", once.odds(0, 0, 1, 2), ALL);
        due("then it is too late", once.odds(0, 2, 1, 5), 0);
        due("to stay is best", once.best(0, 0, 1, 5), NONE);
        due("then to go", once.best(0, 1, 1, 5), 0);
        Check.part("IV: a NAME that one knows");
        gate.names(0);
        due("none", gate.odds(0, 0, 1, 4), 0);
        Check.part("IV: of four who may stray");
        NameGate four = town("town hours 6;court in 0;gate 0 to 1;person at 0 strays 1 to 1;person at 0 strays 1 to 1;"
            + "person at 0 strays 1 to 1;person at 0 strays 1 to 1;", 15);
        due("no HOUR", four.odds(0, 0, 1, 0), 0);
        due("one", four.odds(0, 0, 1, 1), 10_000_000);
        due("two", four.odds(0, 0, 1, 2), 19_900_000);
        due("three", four.odds(0, 0, 1, 3), 29_701_000);
        due("four", four.odds(0, 0, 1, 4), 39_403_990);
        due("no more", four.odds(0, 0, 1, 5), 39_403_990);
    }

    private static void afterNo() {
        String text = "court in 0;gate 0 to 1;person at 0 strays 50 to 1;person at 0 strays 50 to 1;false ";
        Check.part("IV: if no, one is where one was, one HOUR and as many as false tells on");
        for (int more = 0; more <= 9; more++) {
            NameGate gate = town("town hours 20;" + text + more + ";", 3);
            due("too late for both, false " + more, gate.odds(0, 0, 1, more + 1), 500_000_000);
            due("both, false " + more, gate.odds(0, 0, 1, more + 2), 750_000_000);
            gate.row(0, 2, 2);
            due("false " + more + " judged", gate.judge(0), 2);
            due("hours, false " + more, gate.ends(0, 1), 2 * (1 + more));
        }
        Check.part("IV: (the end of the day at most)");
        NameGate nine = town("town hours 3;" + text + "9;", 3);
        due("odds", nine.odds(0, 0, 1, 3), 500_000_000);
        nine.row(0, 2, 1);
        due("a no in the first HOUR", nine.judge(0), 1);
        due("ends the day", nine.ends(0, 1), 3);
        NameGate two = town("town hours 3;" + text + "1;", 3);
        two.row(0, 2, 3);
        due("noes to the very end", two.judge(0), 2);
        due("ends it", two.ends(0, 1), 3);
        NameGate late = town("town hours 20;" + text + "3;", 3);
        due("behind the HOUR (by), 0", late.odds(0, 0, 1, 4), 500_000_000);
        due("at the HOUR (by), 0", late.odds(0, 2, 1, 6), 500_000_000);
        due("ahead of it", late.odds(0, 2, 1, 7), 750_000_000);
    }

    private static void comeOrEnd() {
        NameGate gate = town("town hours 3;court in 0;gate 0 to 1;person at 0 strays 50 to 1;", 1);
        Check.part("IV: there already: all");
        due("at the HOUR (by)", gate.odds(1, 1, 1, 1), ALL);
        due("ahead of it", gate.odds(1, 0, 1, 3), ALL);
        due("outside", gate.odds(0, 2, 0, 2), ALL);
        Check.part("IV: the HOUR (by) come, or the end, else 0");
        due("come", gate.odds(0, 1, 1, 1), 0);
        due("the last HOUR come", gate.odds(0, 2, 1, 2), 0);
        due("the end", gate.odds(0, 2, 1, 3), 500_000_000);
    }

    private static void differences() {
        Check.part("IV: whether he has STRAYED is known then, if it makes a difference");
        // Person 0 opens 1 or 2; once refused at one, he is known to be at the other.
        NameGate gate = town("town hours 6;court in 0;court in 0;gate 0 to 1;gate 0 to 2;gate 1 to 2;"
            + "person at 1 strays 40 to 2;false 2;", 1);
        due("in one HOUR", gate.odds(0, 0, 2, 1), 400_000_000);
        due("a no tells nothing more of 2", gate.odds(0, 0, 2, 6), 400_000_000);
        // 3 opens by him alone, wherever it is tried from: from 1 and from 2 as he is there.
        NameGate told = town("town hours 6;court in 0;court in 0;court in 0;gate 0 to 1;gate 0 to 2;gate 1 to 3;"
            + "gate 2 to 3;person at 1 strays 40 to 2;person at 3;", 3);
        due("one try", told.odds(0, 0, 3, 2), 600_000_000);
        due("by a no he is at 2", told.odds(0, 0, 3, 3), ALL);
        due("the try", told.best(0, 0, 3, 3), 0);
        Check.part("IV: no NAME is tried where none is needed");
        // Whether 0 is in 1 would tell which way leads on, but out of 2 nobody is named.
        NameGate deep = town("town hours 9;law here;court in 0;court in 1;court in 0;court in 3;court in 0;court in 0;"
            + "gate 2 to 1;gate 1 to 5;gate 5 to 3;gate 1 to 6;gate 6 to 4;gate 4 to 3;"
            + "person at 1 from 1 at 3 strays 50 to 4;person at 5;person at 6;", 7);
        due("one of two ways", deep.odds(2, 0, 3, 3), 500_000_000);
        due("more time does not help", deep.odds(2, 0, 3, 5), 500_000_000);
        Check.part("IV: if it makes no difference, nothing is known, and he surely opens");
        NameGate like = town("town hours 6;court in 0;court in 1;gate 0 to 1;gate 1 to 2;person at 1 strays 40 to 2;", 1);
        due("surely within 1", like.sure(0, 0, 1, 1), ALL);
        due("odds", like.odds(0, 0, 1, 1), ALL);
        due("within 2, perhaps", like.odds(0, 0, 2, 6), 400_000_000);
        due("not surely", like.sure(0, 0, 2, 6), 0);
        like.names(0);
        due("not by one whom one does not know", like.sure(0, 0, 1, 6), 0);
        NameGate away = town("town hours 6;court in 0;gate 0 to 1;person at 1 strays 1 to 0;", 1);
        due("nor by one who may be away", away.sure(0, 0, 1, 6), 0);
    }

    private static void notTried() {
        Check.part("IV: A NAME that surely does not open is not tried");
        NameGate gate = town("town hours 6;court in 0;court in 0;gate 0 to 1;gate 0 to 2;person at 0;"
            + "person at 2 strays 50 to 0;", 3);
        due("to stay is best", gate.best(0, 5, 1, 6), NONE);
        due("odds", gate.odds(0, 0, 1, 6), 0);
        due("sure", gate.sure(0, 0, 1, 6), 0);
        due("one who may be there is", gate.best(0, 5, 2, 6), 101);
        gate.hear(1, 2, 0, false);
        due("no more, it was HEARD", gate.best(0, 5, 2, 6), NONE);
    }

    private static void likeOnes() {
        Check.part("IV: what comes then, one HOUR on");
        // 2 opens in the first HOUR alone: nobody who is not in 1 then comes there, so nothing is better than to stay.
        NameGate shut = town("town hours 4;law here;court in 0;court in 1;court in 1;gate 0 to 1;gate 1 to 2;gate 3 to 1;"
            + "person at 1;person at 2 from 1 at 0;", 3);
        due("in 1 in time", shut.best(1, 0, 2, 4), 101);
        due("by a NAME too late", shut.best(0, 0, 2, 4), NONE);
        due("through a free GATE too late", shut.best(3, 0, 2, 4), NONE);
        Check.part("IV: Best of like ones: to stay");
        NameGate gate = town("town hours 6;court in 0;gate 0 to 1;gate 0 to 1;person at 0 strays 50 to 1;"
            + "person at 1;person at 1;", 6);
        due("there is time", gate.best(0, 0, 1, 6), NONE);
        due("one HOUR more than is needed", gate.best(0, 0, 1, 2), NONE);
        due("never", gate.best(0, 0, 1, 1), 1);
        gate.names(0);
        due("nothing helps", gate.best(0, 0, 1, 1), NONE);
        Check.part("IV: then the least GATE");
        gate.names(4);
        due("gate 0", gate.best(0, 5, 1, 6), 2);
        NameGate sides = town("town hours 6;court in 0;court in 0;court in 0;gate 0 to 2;gate 0 to 1;gate 1 to 3;"
            + "gate 2 to 3;person at 1;person at 2;person at 3;", 7);
        due("gate 0, though its NAME is greater", sides.best(0, 0, 3, 2), 1);
        Check.part("IV: then the least NAME");
        gate.names(6);
        due("name 1", gate.best(0, 5, 1, 6), 1);
        gate.names(7);
        due("a sure one ahead of one who may be elsewhere", gate.best(0, 5, 1, 6), 1);
        NameGate even = town("town hours 6;court in 0;gate 0 to 1;person at 0 strays 50 to 1;person at 1 strays 50 to 0;", 3);
        due("even chances", even.best(0, 5, 1, 6), 0);
        even.names(2);
        due("of one alone", even.best(0, 5, 1, 6), 1);
    }

    private static void list() {
        NameGate gate = town("town hours 3;court in 0;court in 1;gate 0 to 1;gate 1 to 2;person at 1 strays 10 to 0;"
            + "person at 0 strays 20 to 2;person at 0 strays 30 to 2;person at 2 strays 40 to 0;", 15);
        Check.part("IV: LIST: all ways in which those of whom it is not known have STRAYED or not");
        due("any of three at 2", gate.list(0, 0, 2, 3), 1_000_000_000 - 8 * 7 * 4 * 1_000_000);
        due("any at all at 1", gate.list(0, 0, 1, 1), 1_000_000_000 - 8 * 7 * 4 * 100_000);
        due("no HOUR", gate.list(0, 0, 1, 0), 0);
        due("one HOUR is too few", gate.list(0, 0, 2, 1), 0);
        due("there", gate.list(2, 0, 2, 0), ALL);
        gate.hear(3, 2, 0, true);
        due("one is known to be there", gate.list(0, 0, 2, 3), ALL);
        gate.forget();
        gate.hear(3, 2, 0, false);
        due("one is known not to be there", gate.list(0, 0, 2, 3), 440_000_000);
        gate.names(0);
        due("no names", gate.list(0, 0, 2, 3), 0);
        due("no names, out", gate.list(2, 0, 0, 2), ALL);
    }

    private static void both() {
        Check.part("V: in each HOUR each stays, or goes through a GATE");
        NameGate gate = town("town hours 4;law here;court in 0;court in 0;gate 0 to 1;gate 1 to 2;", 0);
        due("both go in one HOUR to what the other left", gate.both(1, 2, 3, 1), 4);
        Check.part("V: who goes may name the other, if he is WITHIN that COURT at the HOUR's begin");
        due("he is there at the begin", gate.both(0, 1, 3, 1), 4);
        due("he comes there in that HOUR", gate.both(0, 2, 3, 1), NONE);
        due("an HOUR is too few", gate.both(0, 2, 2, 1), NONE);
        NameGate in = town("town hours 4;court in 0;court in 1;gate 0 to 1;gate 1 to 2;", 0);
        due("by deep he is WITHIN the outer one", in.both(0, 2, 3, 1), 4);
        due("to him in two HOURS", in.both(0, 2, 2, 2), 4);
        due("not in one", in.both(0, 2, 3, 2), NONE);
        Check.part("V: there already");
        due("at the last HOUR", gate.both(2, 2, 3, 2), 3);
    }

    private static void draws() {
        Check.part("VI: x becomes (1103515245 x + 12345) modulo 2,147,483,648");
        // 1103515245 times 2000000000 and 12345 is 216544313 modulo 2^31, which is 3304 times 65536 and more.
        due("4 is not below 4", town(STRAYS_TO + "4 to 0;", 0).draw(2_000_000_000), 0);
        due("4 is below 5", town(STRAYS_TO + "5 to 0;", 0).draw(2_000_000_000), 1);
        Check.part("VI: a draw: x / 65536, cut, modulo 100");
        // From seed 3, x is 1163074432, 17747 times 65536 and 7040; from seed 5 it is 1222621274, 18655 times and 47194.
        due("47 is not below 47", town(STRAYS_TO + "47 to 0;", 0).draw(3), 0);
        due("47 is below 48", town(STRAYS_TO + "48 to 0;", 0).draw(3), 1);
        due("55 is not below 55", town(STRAYS_TO + "55 to 0;", 0).draw(5), 0);
        due("55 is below 56", town(STRAYS_TO + "56 to 0;", 0).draw(5), 1);
        Check.part("VI: he has STRAYED, if it is below N");
        // From seed 1 the draws are 38 and 58.
        due("38 is not below 38", town(STRAYS_TO + "38 to 0;", 0).draw(1), 0);
        due("38 is below 39", town(STRAYS_TO + "39 to 0;", 0).draw(1), 1);
        Check.part("VI: person by person who may stray a draw");
        String others = "person at 0;person at 0 strays ";
        due("58 is not below 58", town(STRAYS_TO + "1 to 0;" + others + "58 to 0;", 0).draw(1), 0);
        due("58 is below 59", town(STRAYS_TO + "1 to 0;" + others + "59 to 0;", 0).draw(1), 4);
        due("a draw of 0 is below 1", town(STRAYS_TO + "1 to 0;", 0).draw(0), 1);
        due("a draw of 99 is not below 99", town(STRAYS_TO + "99 to 0;", 0).draw(194), 0);
        due("a draw of 98 is", town(STRAYS_TO + "99 to 0;", 0).draw(15), 1);
    }

    private static void days() {
        Check.part("VI: told yes or no by that day's draws");
        NameGate gate = town("town hours 3;court in 0;court in 0;court in 0;gate 0 to 1;gate 0 to 2;gate 1 to 3;"
            + "gate 2 to 3;person at 1 strays 39 to 2;person at 3;", 3);
        due("seed 1: he has STRAYED", gate.draw(1), 1);
        due("no time for the other way", gate.days(1, 1, 0, 3, 2), 0);
        due("time, as a no tells", gate.days(1, 1, 0, 3, 3), 1);
        Check.part("VI: a no tells also that he has not STRAYED");
        NameGate far = town("town hours 3;court in 0;court in 0;court in 0;gate 0 to 2;gate 0 to 1;gate 1 to 3;"
            + "gate 2 to 3;person at 1 strays 61 to 2;person at 3;", 3);
        due("seed 7: he has not", far.draw(7), 0);
        due("he is looked for in 2 first", far.best(0, 0, 3, 3), 0);
        due("then found in 1", far.days(7, 1, 0, 3, 3), 1);
        due("if there is time", far.days(7, 1, 0, 3, 2), 0);
        Check.part("VI: HOUR by HOUR: a GATE takes one, whoever is named");
        NameGate two = town("town hours 9;law here;court in 0;court in 1;gate 0 to 1;gate 1 to 2;"
            + "person at 0 strays 50 to 2;person at 0 strays 50 to 2;person at 1;", 7);
        due("seed 7: the second has STRAYED, not the first", two.draw(7), 2);
        due("one try in two HOURS", two.days(7, 1, 0, 2, 2), 0);
        due("two in three", two.days(7, 1, 0, 2, 3), 1);
        Check.part("VI: (what was HEARD ahead of all counts for none of those days)");
        gate.hear(0, 2, 0, true);
        due("still the first try", gate.days(1, 1, 0, 3, 2), 0);
        due("though it is best now", gate.best(0, 0, 3, 2), 100);
        Check.part("VI: nor who has STRAYED in TRUTH");
        gate.strayed(1);
        due("by that day's draws", gate.days(1, 1, 0, 3, 2), 0);
    }
}
