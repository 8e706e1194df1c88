/** Term I and promises 1 to 5: each sentence that names a boundary case, by its own words. */
public final class TextEdgeTest {
    private static final int NONE = NameGate.NONE;

    private TextEdgeTest() {
    }

    public static void main(String[] args) {
        object();
        tape();
        end();
        town();
        townAgain();
        fault();
        lines();
        hours();
        courts();
        gates();
        people();
        strays();
        lawAndFalse();
        tokens();
        blanks();
        faultsOfTokens();
        faultsByPlace();
        faultsOfNumber();
        faultsOfTooMany();
        greatest();
        Check.finish();
    }

    private static void due(String call, long got, long want) {
        Check.due(call, got, want);
    }

    private static void object() {
        Check.part("An object is used for at most 512 calls");
        NameGate gate = new NameGate();
        Check.load(gate, "town hours 5;court in 0;gate 0 to 1;person at 1;");
        gate.names(1);
        // Seven calls have been made: count, three times feed, end, town, names.
        for (int call = 8; call <= 511; call++) {
            gate.soonest(0, 0, 1);
        }
        due("the 512th call", gate.soonest(0, 0, 1), 1);
        Check.part("1: No TOWN");
        NameGate none = new NameGate();
        due("courts", none.count(0), 0);
        due("hours", none.count(1), 0);
        due("lines", none.count(4), 0);
        due("no image is kept", none.back(0), -6);
        due("no row is there", none.count(10), 0);
    }

    private static void tape() {
        Check.part("2: Twenty bytes come behind the TAPE .. how many it has");
        NameGate gate = new NameGate();
        due("of an empty one", gate.feed(0, 0, 0, 0, 0), 20);
        gate.end(3);
        due("behind three", gate.feed(0, 0, 0, 0, 0), 23);
        Check.part("2: four of each number, the highest first");
        NameGate read = new NameGate();
        // "town hours 9;" and bytes whose highest bit is set, which no TOKEN has.
        read.feed(0x746F776E, 0x20686F75, 0x72732039, 0x3B808182, 0xFFFEFDFC);
        due("a fault", read.town(), -4);
        due("of the first such byte", read.fault(1), 13);
        read.feed(0x746F776E, 0x20686F75, 0x72732039, 0x3B808182, 0xFFFEFDFC);
        read.end(13);
        due("without them", read.town(), 1);
        due("hours", read.count(1), 9);
        Check.part("2: NONE, and none come, if it would have more than 1,600");
        NameGate full = new NameGate();
        for (int i = 1; i <= 79; i++) {
            full.feed(0, 0, 0, 0, 0);
        }
        due("1,600", full.feed(0, 0, 0, 0, 0), 1600);
        due("1,620", full.feed(0, 0, 0, 0, 0), NONE);
        due("none come", full.count(5), 1600);
        full.end(1581);
        due("1,601", full.feed(0, 0, 0, 0, 0), NONE);
        due("none come to 1,581", full.count(5), 1581);
        full.end(1580);
        due("1,600 again", full.feed(0, 0, 0, 0, 0), 1600);
        Check.part("2: a TAPE that is full can be a TOWN");
        NameGate longest = new NameGate();
        due("lines", Check.load(longest, Text.HOURS + " ".repeat(1600 - 13 - 11) + Text.COURT), 2);
        due("courts", longest.count(0), 2);
        Check.part("2: each byte of a full TAPE may be a TOKEN");
        NameGate signs = new NameGate();
        due("1,600 signs", Check.load(signs, ";".repeat(1600)), -4);
        due("the first can't stand there", signs.fault(1), 0);
        due("1,587 signs behind a LINE", Check.load(signs, Text.HOURS + ";".repeat(1587)), -4);
        due("their first", signs.fault(1), 13);
        due("1,600 that are none", Check.load(signs, "!".repeat(1600)), -4);
        due("one word", Check.load(signs, "a".repeat(1600)), -4);
        Check.part("2: of what does not come nothing is read");
        NameGate refused = new NameGate();
        Check.feed(refused, Text.HOURS + "\n".repeat(1587));
        refused.feed(0x21212121, 0x21212121, 0x21212121, 0x21212121, 0x21212121);
        due("lines", refused.town(), 1);
    }

    private static void end() {
        Check.part("3: The TAPE has its first n bytes alone: n");
        NameGate gate = new NameGate();
        Check.feed(gate, "town hours 5;court");
        due("13", gate.end(13), 13);
        due("has", gate.count(5), 13);
        Check.feed(gate, "false 3;");
        due("what is cut off is gone", gate.town(), 2);
        due("false", gate.count(8), 3);
        Check.part("3: as many as it has, and none");
        Check.feed(gate, "abcde");
        due("5", gate.end(5), 5);
        due("still", gate.count(5), 5);
        due("0", gate.end(0), 0);
        due("none", gate.count(5), 0);
        due("0 of none", gate.end(0), 0);
        Check.part("3: NONE, and nothing happens, if it has not so many");
        Check.feed(gate, "abcde");
        due("6", gate.end(6), NONE);
        due("still 5", gate.count(5), 5);
        due("far more", gate.end(Integer.MAX_VALUE), NONE);
        due("5 still", gate.count(5), 5);
        Check.part("3: or n is below 0");
        due("-1", gate.end(-1), NONE);
        due("5 then", gate.count(5), 5);
        due("far below", gate.end(Integer.MIN_VALUE), NONE);
        due("5 at last", gate.count(5), 5);
    }

    private static void town() {
        Check.part("4: The TAPE (empty then) is the TOWN: how many LINES");
        NameGate gate = new NameGate();
        due("one", Check.load(gate, Text.HOURS), 1);
        due("empty", gate.count(5), 0);
        due("of an empty one", gate.town(), 0);
        due("it is none", gate.count(0), 0);
        due("of blanks alone", Check.load(gate, " \n \n"), 0);
        due("no fault", gate.fault(0), 0);
        due("most LINES", Check.load(gate, Text.greatest()), 38);
        due("counted", gate.count(4), 38);
        Check.part("4: {LINE ;} may be none");
        due("an empty TAPE", new NameGate().town(), 0);
        gate.town();
        due("has no COURT", gate.count(0), 0);
        Check.part("4: -4: a FAULT (all stays)");
        NameGate kept = new NameGate();
        Check.load(kept, "town hours 7;court in 0;gate 0 to 1;person at 0 strays 30 to 1;false 2;");
        kept.names(1);
        kept.strayed(1);
        kept.hear(0, 1, 0, true);
        kept.keep(2);
        kept.row(3, 1, 2);
        String before = State.of(kept);
        due("a fault", Check.load(kept, "town hours 3;court in 1;"), -4);
        Check.same("all stays", State.of(kept), before);
        due("the image too", kept.back(2), 0);
        due("the next text stands by itself", Check.load(kept, "town hours 3;"), 1);
    }

    private static void townAgain() {
        Check.part("4: (in place of another) nobody has STRAYED, nothing is HEARD, one knows no NAMES then");
        String text = "town hours 7;court in 0;gate 0 to 1;person at 0 strays 30 to 1;false 2;law here;";
        NameGate gate = new NameGate();
        Check.load(gate, text);
        gate.names(1);
        gate.strayed(1);
        gate.hear(0, 1, 0, true);
        gate.row(0, 0, 1);
        gate.keep(0);
        due("the same again", Check.load(gate, text), 6);
        due("heard", gate.count(7), 0);
        due("thought", gate.think(0, 1, 0), 30);
        due("strayed", gate.strayed(0), 0);
        due("names", gate.names(0), 0);
        due("rows stay", gate.count(10), 1);
        due("images stay", gate.back(0), 0);
        due("as they were", gate.names(0), 1);
        due("another", Check.load(gate, "town hours 2;"), 1);
        int[] counts = {1, 2, 0, 0, 1, 0, 0, 0, 0, 1};
        for (int what = 0; what < counts.length; what++) {
            due("nothing of the first is left, count " + what, gate.count(what), counts[what]);
        }
        due("none in place of it", gate.town(), 0);
        for (int what = 0; what < counts.length; what++) {
            due("no TOWN, count " + what, gate.count(what), 0);
        }
    }

    private static void fault() {
        Check.part("5: Of the latest town(), what 0: its FAULT, 0 without, 1: its place (NONE without)");
        NameGate gate = new NameGate();
        Check.load(gate, "town hours 0;");
        due("fault", gate.fault(0), 2);
        due("place", gate.fault(1), 11);
        Check.load(gate, "?");
        due("the latest", gate.fault(0), 1);
        due("its place 0", gate.fault(1), 0);
        Check.load(gate, Text.HOURS);
        due("without", gate.fault(0), 0);
        due("no place", gate.fault(1), NONE);
        Check.load(gate, Text.HOURS + Text.PERSON.repeat(11));
        due("the third kind", gate.fault(0), 3);
        gate.back(0);
        gate.feed(0, 0, 0, 0, 0);
        due("other calls change nothing", gate.fault(0), 3);
        gate.end(0);
        gate.town();
        due("an empty one has none", gate.fault(0), 0);
        Check.part("5: NONE for another what");
        due("2", gate.fault(2), NONE);
        due("-1", gate.fault(-1), NONE);
        due("greatest", gate.fault(Integer.MAX_VALUE), NONE);
        due("least", gate.fault(Integer.MIN_VALUE), NONE);
        Check.part("5: and ahead of any (what 1)");
        due("what 1", new NameGate().fault(1), NONE);
        due("what 0", new NameGate().fault(0), 0);
        due("what 2", new NameGate().fault(2), NONE);
    }

    private static void lines() {
        Check.part("I: town is the first LINE and no other");
        Text.stands(Text.HOURS);
        Text.failsAtBar("|court in 0;", 1);
        Text.failsAtBar("|gate 0 to 1;", 1);
        Text.failsAtBar("|person at 0;", 1);
        Text.failsAtBar("|law deep;", 1);
        Text.failsAtBar("|false 0;", 1);
        Text.failsAtBar("town hours 5;|town hours 5;", 1);
        Text.failsAtBar("town hours 5;court in 0;|town hours 6;", 1);
        Check.part("I: LINE ;");
        Text.failsAtBar("town hours 5|", 1);
        Text.failsAtBar("town hours 5 |court in 0;", 1);
        Text.failsAtBar("|;", 1);
        Text.failsAtBar("town hours 5;|;", 1);
        Text.failsAtBar("town hours 5;court in 0;|;court in 0;", 1);
        Text.failsAtBar("town hours 5;court in 0|", 1);
        Text.failsAtBar("town hours 5;court in 0 |0;", 1);
    }

    private static void hours() {
        Check.part("I: hours 1 .. 48");
        Text.failsAtBar("town hours |0;", 2);
        due("1", Text.stands("town hours 1;").count(1), 1);
        due("48", Text.stands("town hours 48;").count(1), 48);
        Text.failsAtBar("town hours |49;", 2);
        Text.failsAtBar("town hours |256;", 2);
        Text.failsAtBar("town hours |65537;", 2);
        Text.failsAtBar("town hours |4294967297;", 2);
        Text.failsAtBar("town hours |18446744073709551617;", 2);
        Text.failsAtBar("town hours |" + "9".repeat(1500) + ";", 2);
        due("noughts ahead", Text.stands("town hours " + "0".repeat(1500) + "48;").count(1), 48);
    }

    private static void courts() {
        Check.part("I: COURTS: 0 is outside; 1 .. 9 are numbered as they are told");
        due("outside alone", Text.stands(Text.HOURS).count(0), 1);
        NameGate chain = Text.stands(Text.HOURS + "court in 0;court in 0;court in 2;");
        due("first", chain.depth(1), 1);
        due("third in the second", chain.lies(3, 2), 1);
        due("not in the first", chain.lies(3, 1), 0);
        due("nine", Text.stands(Text.HOURS + Text.COURT.repeat(9)).count(0), 10);
        Check.part("I: C one told ahead (or 0)");
        Text.failsAtBar("town hours 5;court in |1;", 2);
        Text.stands("town hours 5;court in 0;court in 1;court in 2;");
        Text.failsAtBar("town hours 5;court in 0;court in |2;", 2);
        Text.failsAtBar("town hours 5;court in 0;court in |3;court in 0;", 2);
        Text.failsAtBar("town hours 5;court in |10;", 2);
        due("the deepest", Text.stands(Text.greatest()).depth(9), 9);
    }

    private static void gates() {
        Check.part("I: gate: two unlike ones");
        Text.failsAtBar("town hours 5;gate 0 to |0;", 2);
        Text.failsAtBar("town hours 5;court in 0;gate 1 to |1;", 2);
        Text.stands("town hours 5;court in 0;gate 1 to 0;gate 0 to 1;");
        Check.part("I: a gate's COURTS are told ahead");
        Text.failsAtBar("town hours 5;gate |1 to 0;court in 0;", 2);
        Text.failsAtBar("town hours 5;gate 0 to |1;court in 0;", 2);
        Text.failsAtBar("town hours 5;court in 0;gate |2 to 2;", 2);
        Text.stands(Text.HOURS + Text.COURT.repeat(9) + "gate 9 to 8;");
        Text.failsAtBar(Text.HOURS + Text.COURT.repeat(9) + "gate |10 to 8;", 2);
        Text.failsAtBar(Text.HOURS + Text.COURT.repeat(9) + "gate 9 to |10;", 2);
        Check.part("I: GATES 0 .. 15; two may join the same COURTS");
        NameGate all = Text.stands(Text.HOURS + Text.COURT + Text.GATE.repeat(16));
        due("sixteen", all.count(2), 16);
        due("the last", all.leads(15, 0), 1);
        due("none more", all.leads(16, 0), -2);
        Check.part("I: GATES are numbered as they stand");
        NameGate two = Text.stands(Text.HOURS + Text.COURT + Text.COURT + "gate 0 to 2;person at 0;gate 1 to 0;");
        due("0", two.leads(0, 0), 2);
        due("1", two.leads(1, 0), 1);
    }

    private static void people() {
        Check.part("I: PEOPLE 0 .. 9, numbered as they stand");
        due("none", Text.stands(Text.HOURS).count(3), 0);
        NameGate ten = Text.stands(Text.HOURS + Text.COURT + Text.PERSON.repeat(9) + "person at 1;");
        due("ten", ten.count(3), 10);
        due("the last", ten.where(9, 0), 1);
        due("the one ahead", ten.where(8, 0), 0);
        Check.part("I: person at C, one told ahead");
        Text.failsAtBar("town hours 5;person at |1;court in 0;", 2);
        Text.failsAtBar("town hours 5;person at 0 from 1 at |1;", 2);
        Text.failsAtBar("town hours 5;person at 0 strays 5 to |1;", 2);
        Check.part("I: H 1 .. hours less 1");
        Text.failsAtBar("town hours 5;person at 0 from |0 at 0;", 2);
        Text.stands("town hours 5;person at 0 from 1 at 0;");
        Text.stands("town hours 5;person at 0 from 4 at 0;");
        Text.failsAtBar("town hours 5;person at 0 from |5 at 0;", 2);
        Text.stands("town hours 48;person at 0 from 47 at 0;");
        Text.failsAtBar("town hours 48;person at 0 from |48 at 0;", 2);
        Text.stands("town hours 2;person at 0 from 1 at 0;");
        Text.failsAtBar("town hours 1;person at 0 from |1 at 0;", 2);
        Text.failsAtBar("town hours 1;person at 0 from |0 at 0;", 2);
        Check.part("I: each above the one ahead");
        Text.stands("town hours 5;person at 0 from 2 at 0 from 3 at 0;");
        Text.failsAtBar("town hours 5;person at 0 from 2 at 0 from |2 at 0;", 2);
        Text.failsAtBar("town hours 5;person at 0 from 2 at 0 from |1 at 0;", 2);
        Text.failsAtBar("town hours 5;person at 0 from 1 at 0 from 4 at 0 from |4 at 0;", 2);
        Text.stands("town hours 5;person at 0 from 4 at 0;person at 0 from 1 at 0;");
        StringBuilder every = new StringBuilder("town hours 48;court in 0;person at 0");
        for (int hour = 1; hour < 48; hour++) {
            every.append(" from ").append(hour).append(" at ").append(hour % 2);
        }
        NameGate restless = Text.stands(every + ";");
        for (int hour = 0; hour < 48; hour++) {
            due("each hour elsewhere, " + hour, restless.where(0, hour), hour % 2);
        }
    }

    private static void strays() {
        Check.part("I: strays N: 1 .. 99");
        Text.failsAtBar("town hours 5;person at 0 strays |0 to 0;", 2);
        NameGate ends = Text.stands("town hours 5;court in 0;person at 0 strays 1 to 1;person at 0 strays 99 to 1;");
        due("1", ends.think(0, 1, 0), 1);
        due("99", ends.think(1, 1, 0), 99);
        Text.failsAtBar("town hours 5;person at 0 strays |100 to 0;", 2);
        Check.part("I: no more than four stray");
        NameGate four = Text.stands(Text.HOURS + Text.PERSON + Text.STRAYER.repeat(4) + Text.PERSON);
        due("four", four.count(6), 30);
        Text.failsAtBar(Text.HOURS + Text.STRAYER.repeat(4) + "person at 0 |strays 1 to 0;", 2);
        Text.failsAtBar(Text.HOURS + Text.STRAYER.repeat(4) + Text.PERSON.repeat(5) + "person at 0 |strays 1 to 0;", 2);
        Check.part("I: [strays N to C] once, behind all from");
        Text.failsAtBar("town hours 5;person at 0 strays 1 to 0 |strays 1 to 0;", 1);
        Text.failsAtBar("town hours 5;person at 0 strays 1 to 0 |from 1 at 0;", 1);
        Text.stands("town hours 5;person at 0 from 1 at 0 strays 1 to 0;");
        Text.failsAtBar("town hours 5;person |strays 1 to 0;", 1);
    }

    private static void lawAndFalse() {
        Check.part("I: law, false once each (deep, 0 without)");
        NameGate without = Text.stands(Text.HOURS);
        due("deep", without.count(9), 1);
        due("0", without.count(8), 0);
        due("here", Text.stands("town hours 5;law here;").count(9), 0);
        due("deep told", Text.stands("town hours 5;law deep;").count(9), 1);
        Text.stands("town hours 5;false 1;law here;");
        Text.failsAtBar("town hours 5;law here;|law here;", 2);
        Text.failsAtBar("town hours 5;law deep;court in 0;|law here;", 2);
        Text.failsAtBar("town hours 5;false 0;|false 0;", 2);
        Text.failsAtBar("town hours 5;false 0;law deep;|false 1;", 2);
        Text.failsAtBar("town hours 5;law |;", 1);
        Text.failsAtBar("town hours 5;law here |deep;", 1);
        Check.part("I: false 0 .. 9");
        due("0", Text.stands("town hours 5;false 0;").count(8), 0);
        due("9", Text.stands("town hours 5;false 9;").count(8), 9);
        Text.failsAtBar("town hours 5;false |10;", 2);
        Text.failsAtBar("town hours 5;false |;", 1);
        Check.part("I: law counts for all, wherever it stands");
        NameGate late = Text.stands("town hours 5;court in 0;court in 1;person at 2;law here;");
        due("not within the outer one", late.within(1, 0), 0);
    }

    private static void tokens() {
        Check.part("I: TOKENS, the longest");
        due("number behind word", Text.stands("town hours12;").count(1), 12);
        due("word behind number", Text.stands("town hours 5;person at0from1at0strays7to0;").count(6), 1);
        due("no blank at all", Text.stands("town hours 9;court in0;gate 0to1;law here;false4;").count(8), 4);
        Text.failsAtBar("|townhours 5;", 1);
        Text.failsAtBar("town hours 5;|courtin 0;", 1);
        Text.failsAtBar("town hours 5;court in |00000000001;", 2);
        Text.failsAtBar("town hours 1 |2;", 1);
        Text.failsAtBar("|to wn hours 5;", 1);
        Text.failsAtBar("town |hour s 5;", 1);
        Check.part("I: words (a .. z)");
        Text.failsAtBar("|Town hours 5;", 1);
        Text.failsAtBar("|tOwn hours 5;", 1);
        for (char sign : new char[] {'`', '{', '@', '[', 'A', 'Z', '_'}) {
            Text.failsAtBar("town hours 5;|" + sign, 1);
            Text.failsAtBar("town hours 5;law deep|" + sign + ";", 1);
        }
        Check.part("I: a .. z are one word each");
        for (char sign = 'a'; sign <= 'z'; sign++) {
            Text.failsAtBar("town hours 5;|court" + sign + " in 0;", 1);
            Text.failsAtBar("town hours 5;|" + sign + "court in 0;", 1);
        }
        Check.part("I: each sign of a word counts");
        String all = "town hours 5;court in 0;gate 0 to 1;person at 0 from 1 at 0 strays 7 to 0;law here;false 4;";
        for (int i = 0; i < all.length(); i++) {
            if (Character.isLetter(all.charAt(i))) {
                int begin = Math.max(all.lastIndexOf(' ', i), all.lastIndexOf(';', i)) + 1;
                Text.fails(all.substring(0, i) + 'z' + all.substring(i + 1), 1, begin);
            }
        }
        Check.part("I: numbers (digits)");
        for (int digit = 0; digit < 10; digit++) {
            due("digit " + digit, Text.stands("town hours 3" + digit + ";").count(1), 30 + digit);
        }
        for (char sign : new char[] {'/', ':', '-', '+', '.'}) {
            Text.failsAtBar("town hours |" + sign + "5;", 1);
            Text.failsAtBar("town hours 5|" + sign + ";", 1);
        }
        Check.part("I: the sign ;");
        Text.failsAtBar("town hours 5|:", 1);
        Text.failsAtBar("town hours 5|<", 1);
    }

    private static void blanks() {
        Check.part("I: blanks (32, 10) aside");
        due("lines", Text.stands(" \n\n town\nhours\n 5\n;\n \n").count(1), 5);
        for (int sign = 0; sign < 256; sign++) {
            boolean blank = sign == 32 || sign == 10;
            boolean part = sign >= 'a' && sign <= 'z' || sign >= '0' && sign <= '9' || sign == ';';
            if (blank) {
                Text.stands("town" + (char) sign + "hours 5;");
            } else if (!part) {
                Text.failsAtBar("town|" + (char) sign + "hours 5;", 1);
                Text.failsAtBar("town hours 5;|" + (char) sign, 1);
            }
        }
    }

    private static void faultsOfTokens() {
        Check.part("I: 1 a TOKEN that is none, or can't stand there");
        String[] lines = {"town hours 5 ;", "court in 0 ;", "gate 0 to 1 ;", "law deep ;", "false 3 ;",
            "person at 0 from 1 at 0 from 2 at 0 strays 3 to 0 ;"};
        String begin = "town hours 5;court in 0;";
        for (String line : lines) {
            String ahead = line.startsWith("town") ? "" : begin;
            String[] parts = line.split(" ");
            StringBuilder soFar = new StringBuilder(ahead);
            for (int i = 0; i < parts.length; i++) {
                boolean number = Character.isDigit(parts[i].charAt(0));
                Text.failsAtBar(soFar + "|what 0;", 1);
                Text.failsAtBar(soFar + "|?", 1);
                Text.failsAtBar(soFar + (number ? "|;" : "|1;"), 1);
                if (i > 0) {
                    Text.failsAtBar(soFar + "|", 1);
                }
                soFar.append(parts[i]).append(' ');
            }
            Text.stands(soFar.toString());
        }
    }

    private static void faultsByPlace() {
        Check.part("I: the first by its place (a TOKEN's first byte; the end's)");
        Text.failsAtBar("|?town hours 0;", 1);
        Text.failsAtBar("town hours |0;?", 2);
        Text.failsAtBar("town hours |0", 2);
        Text.failsAtBar("town hours |077 ; law law", 2);
        Text.failsAtBar("town hours 5;|xcourt in 9;", 1);
        Text.failsAtBar("town hours 5;court in |9?;", 2);
        Text.failsAtBar("town hours|", 1);
        Text.failsAtBar("town hours \n |", 1);
        Text.failsAtBar("town hours 5 \n\n|", 1);
        Text.failsAtBar("town hours 5" + " ".repeat(1588) + "|", 1);
        Check.part("I: of one place the least");
        // These are faults of kind 2 or 3 where such a TOKEN can stand; here none of them can.
        Text.failsAtBar("town hours 5 |99;", 1);
        Text.failsAtBar("town hours 5;court |99;", 1);
        Text.failsAtBar("town hours 5;law deep;court |law deep;", 1);
        Text.failsAtBar("town hours 5;false 0;court |false 0;", 1);
        Text.failsAtBar(Text.HOURS + Text.COURT.repeat(9) + "gate |court", 1);
        Text.failsAtBar(Text.HOURS + Text.COURT + Text.GATE.repeat(16) + "person |gate", 1);
        Text.failsAtBar(Text.HOURS + Text.PERSON.repeat(10) + "false |person", 1);
        Text.failsAtBar(Text.HOURS + Text.STRAYER.repeat(4) + "person at |strays", 1);
        Text.failsAtBar(Text.HOURS + Text.STRAYER.repeat(4) + "|strays", 1);
    }

    private static void faultsOfNumber() {
        Check.part("I: 2 a number out of its bounds, not as said; at it");
        Text.failsAtBar("town hours   |0049  ;", 2);
        Text.failsAtBar("town hours 5;gate 0 to   |0;", 2);
        Text.failsAtBar("town hours 5;law deep;false 1;\n|law deep;", 2);
        Text.failsAtBar("town hours 5;law deep;false 1;\n|false", 2);
        Text.failsAtBar("town hours 5;law deep;|law", 2);
        Check.part("I: 2 the word strays of a fifth");
        Text.failsAtBar(Text.HOURS + Text.STRAYER.repeat(4) + "person at 0 from 1 at 0 |strays", 2);
        Text.failsAtBar(Text.HOURS + Text.STRAYER.repeat(4) + "person at 0 |strays 100", 2);
    }

    private static void faultsOfTooMany() {
        Check.part("I: 3 a 10th court, at its word");
        Text.failsAtBar(Text.HOURS + Text.COURT.repeat(9) + "|court in 0;", 3);
        Text.failsAtBar(Text.HOURS + Text.COURT.repeat(9) + "|court", 3);
        Text.failsAtBar(Text.HOURS + Text.COURT.repeat(9) + "|court?", 3);
        Check.part("I: 3 a 17th gate, at its word");
        Text.failsAtBar(Text.HOURS + Text.COURT + Text.GATE.repeat(16) + "|gate 0 to 1;", 3);
        Text.failsAtBar(Text.HOURS + Text.COURT + Text.GATE.repeat(16) + "|gate", 3);
        Check.part("I: 3 an 11th person, at its word");
        Text.failsAtBar(Text.HOURS + Text.PERSON.repeat(10) + "|person at 0;", 3);
        Text.failsAtBar(Text.HOURS + Text.PERSON.repeat(10) + "|person", 3);
        Text.failsAtBar(Text.HOURS + Text.STRAYER.repeat(4) + Text.PERSON.repeat(6) + "|person at 0 strays 1 to 0;", 3);
    }

    private static void greatest() {
        Check.part("I: all that a TOWN can have at once");
        NameGate gate = Text.stands(Text.greatest());
        int[] counts = {10, 48, 16, 10, 38, 0, 960, 0, 9, 1, 0};
        for (int what = 0; what < counts.length; what++) {
            due("count " + what, gate.count(what), counts[what]);
        }
        due("the last one at the last HOUR", gate.where(9, 47), 0);
        due("ahead of it", gate.where(9, 46), 9);
        due("the deepest COURT", gate.within(9, 46), 512);
        due("all are outside", gate.within(0, 47), 1023);
    }
}
