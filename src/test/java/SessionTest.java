import java.util.ArrayList;
import java.util.Arrays;
import java.util.List;
import java.util.Random;

/** Runs of calls that change something, refused ones among them, held against a plain model of the state. */
public final class SessionTest {
    private static final int NONE = NameGate.NONE;

    private final Random dice;
    private final NameGate gate = new NameGate();
    private StringBuilder tape = new StringBuilder();
    private Naive town;
    private int faultKind;
    private int faultPlace = NONE;
    private final Naive[] images = new Naive[3];
    private final boolean[] kept = new boolean[3];
    private final long[][] rows = new long[4][];
    private final int[] widths = new int[4];
    private int calls;
    private String log = "";

    private SessionTest(Random dice) {
        this.dice = dice;
    }

    public static void main(String[] args) {
        int runs = args.length > 0 ? Integer.parseInt(args[0]) : 1500;
        for (int run = 0; run < runs && !Check.hasFailed(); run++) {
            SessionTest session = new SessionTest(new Random(run));
            // Loading a text takes some 90 calls at most, and an object is used for 512.
            while (session.calls < 410 && !Check.hasFailed()) {
                Check.part("run " + run + ", " + session.log);
                session.step();
            }
        }
        Check.finish();
    }

    private void due(String call, long got, long want) {
        calls++;
        log = (log.length() > 900 ? log.substring(log.length() - 900) : log) + " " + call;
        Check.due(call, got, want);
    }

    private void step() {
        switch (dice.nextInt(16)) {
            case 0:
                load();
                break;
            case 1:
                feedOrEnd();
                break;
            case 2:
            case 3:
                setNames();
                break;
            case 4:
            case 5:
                setStrayed();
                break;
            case 6:
            case 7:
                hear();
                break;
            case 8:
                forget();
                break;
            case 9:
                keep();
                break;
            case 10:
                back();
                break;
            case 11:
                row();
                break;
            case 12:
                write();
                break;
            case 13:
                paste();
                break;
            case 14:
                judge();
                break;
            default:
                look();
                break;
        }
    }

    /** Mostly 0 .. beyond less 1, now and then just out of it, or far. */
    private int number(int beyond) {
        switch (dice.nextInt(14)) {
            case 0:
                return -1;
            case 1:
                return beyond;
            case 2:
                return dice.nextInt(5) == 0 ? dice.nextInt() : beyond - 1;
            default:
                return beyond > 0 ? dice.nextInt(beyond) : 0;
        }
    }

    private static boolean isIn(int number, int beyond) {
        return number >= 0 && number < beyond;
    }

    private void load() {
        if (dice.nextInt(3) > 0) {
            due("end(0)", gate.end(0), 0);
            tape = new StringBuilder();
        }
        Naive told = Naive.random(dice, 9, 5, 6, 5);
        String whole = String.join(";", told.lines(dice)) + ";";
        String text = whole;
        if (dice.nextInt(4) == 0) {
            text = dice.nextInt(3) == 0 ? "" : whole.substring(0, dice.nextInt(whole.length()));
        }
        if (tape.length() + text.length() > 1580) {
            return;
        }
        if (!text.isEmpty() && !(tape + text).strip().equals(whole)) {
            // What was cut off just behind a line would be another town.
            text += "?";
        }
        Check.feed(gate, text);
        calls += 3 + text.length() / 20;
        tape.append(text);
        Grammar grammar = new Grammar(tape.toString());
        due("town() of " + tape, gate.town(), grammar.kind == 0 ? grammar.lines : -4);
        if (grammar.kind == 0) {
            town = grammar.lines == 0 ? null : told;
        }
        faultKind = grammar.kind;
        faultPlace = grammar.place;
        tape = new StringBuilder();
    }

    private void feedOrEnd() {
        if (dice.nextInt(3) == 0) {
            boolean fits = tape.length() + 20 <= 1600;
            due("feed", gate.feed(0x20202020, 0x0A0A0A0A, 0x3B3B3B3B, 0x61626364, 0x30313233),
                fits ? tape.length() + 20 : NONE);
            tape.append(fits ? "    \n\n\n\n;;;;abcd0123" : "");
            return;
        }
        int n = number(tape.length() + 1);
        due("end(" + n + ")", gate.end(n), isIn(n, tape.length() + 1) ? n : NONE);
        if (isIn(n, tape.length() + 1)) {
            tape.setLength(n);
        }
    }

    private void setNames() {
        int set = number(town == null ? 1 : 1 << town.people());
        boolean such = set == 0 || town != null && isIn(set, 1 << town.people());
        due("names(" + set + ")", gate.names(set), such ? town == null ? 0 : town.names : -2);
        if (such && town != null) {
            town.names = set;
        }
    }

    private void setStrayed() {
        int set = town == null || dice.nextInt(4) == 0 ? number(8) : dice.nextInt(1024) & town.strayers();
        boolean such = set == 0 || town != null && (set & ~town.strayers()) == 0;
        due("strayed(" + set + ")", gate.strayed(set), such ? town == null ? 0 : town.strayed : -2);
        if (such && town != null) {
            town.strayed = set;
        }
    }

    private void hear() {
        int person = number(town == null ? 0 : town.people());
        int court = number(town == null ? 0 : town.courts());
        int hour = number(town == null ? 0 : town.hours);
        boolean is = dice.nextBoolean();
        boolean such = town != null && isIn(person, town.people()) && isIn(court, town.courts()) && isIn(hour, town.hours);
        due("hear(" + person + ", " + court + ", " + hour + ", " + is + ")", gate.hear(person, court, hour, is),
            such ? town.hear(person, court, hour, is) : -2);
    }

    private void forget() {
        due("forget()", gate.forget(), town == null ? 0 : Integer.bitCount(town.known));
        if (town != null) {
            town.known = 0;
            town.gone = 0;
        }
    }

    private void keep() {
        int k = number(3);
        due("keep(" + k + ")", gate.keep(k), isIn(k, 3) ? 0 : -2);
        if (isIn(k, 3)) {
            kept[k] = true;
            images[k] = town == null ? null : town.copy();
        }
    }

    private void back() {
        int k = number(3);
        boolean has = isIn(k, 3) && kept[k];
        due("back(" + k + ")", gate.back(k), has ? 0 : isIn(k, 3) ? -6 : -2);
        if (has) {
            town = images[k] == null ? null : images[k].copy();
        }
    }

    private void row() {
        int slot = number(4);
        int width = number(4);
        int n = dice.nextInt(3) == 0 ? number(61) : number(9);
        int answer = !isIn(slot, 4) || !isIn(width, 4) || n > 60 ? -2 : n < 0 ? -3 : 0;
        due("row(" + slot + ", " + width + ", " + n + ")", gate.row(slot, width, n), answer);
        if (answer == 0) {
            rows[slot] = new long[n];
            widths[slot] = width;
        }
    }

    private void write() {
        int slot = number(4);
        int size = isIn(slot, 4) && rows[slot] != null ? rows[slot].length : 0;
        int i = number(size);
        long v = value();
        int answer = !isIn(slot, 4) ? -2 : rows[slot] == null ? -6 : !isIn(i, size) ? -7 : 0;
        due("write(" + slot + ", " + i + ", " + v + ")", gate.write(slot, i, v), answer);
        if (answer == 0) {
            int spare = 64 - (8 << widths[slot]);
            rows[slot][i] = v << spare >> spare;
        }
    }

    private long value() {
        long low = dice.nextInt(3) == 0 ? -1 : 100L * dice.nextInt(7) + (dice.nextInt(3) == 0 ? 99 : dice.nextInt(6));
        return dice.nextInt(4) == 0 ? low + (1L << (8 << dice.nextInt(3))) * dice.nextInt(9) : low;
    }

    private void paste() {
        int slot = number(4);
        int to = number(4);
        int size = isIn(slot, 4) && rows[slot] != null ? rows[slot].length : 0;
        int room = isIn(to, 4) && rows[to] != null ? rows[to].length : 0;
        int i = number(size + 1);
        int k = number(room + 1);
        int n = number(Math.max(1, Math.min(size - i, room - k) + 1));
        boolean fits = i >= 0 && k >= 0 && n >= 0 && (long) i + n <= size && (long) k + n <= room;
        int answer = fits ? 0 : -7;
        if (!isIn(slot, 4) || !isIn(to, 4)) {
            answer = -2;
        } else if (rows[slot] == null || rows[to] == null) {
            answer = -6;
        } else if (widths[slot] != widths[to]) {
            answer = -8;
        }
        due("paste(" + slot + ", " + i + ", " + to + ", " + k + ", " + n + ")", gate.paste(slot, i, to, k, n), answer);
        if (answer == 0) {
            long[] put = Arrays.copyOfRange(rows[slot], i, i + n);
            for (int j = 0; j < n; j++) {
                rows[to][k + j] = put[j];
            }
        }
    }

    private void judge() {
        int slot = number(4);
        int refused = !isIn(slot, 4) || town == null ? -2 : rows[slot] == null ? -6 : 0;
        int[] judged = refused == 0 ? town.judge(rows[slot]) : new int[] {refused, refused, refused, refused};
        due("judge(" + slot + ")", gate.judge(slot), judged[0]);
        int what = number(3);
        due("ends(" + slot + ", " + what + ")", gate.ends(slot, what), isIn(what, 3) ? judged[1 + what] : -2);
    }

    private void look() {
        List<Integer> want = new ArrayList<>();
        boolean is = town != null;
        want.add(is ? town.courts() : 0);
        want.add(is ? town.hours : 0);
        want.add(is ? town.gates.length : 0);
        want.add(is ? town.people() : 0);
        want.add(NONE);
        want.add(tape.length());
        want.add(is ? town.strayers() : 0);
        want.add(is ? town.known : 0);
        want.add(is ? town.falseHours : 0);
        want.add(is && town.deep ? 1 : 0);
        want.add((int) Arrays.stream(rows).filter(row -> row != null).count());
        int what = number(11);
        if (what != 4) {
            due("count(" + what + ")", gate.count(what), isIn(what, 11) ? want.get(what) : NONE);
        }
        due("fault(0)", gate.fault(0), faultKind);
        due("fault(1)", gate.fault(1), faultPlace);
        if (is) {
            int from = dice.nextInt(town.courts());
            int to = dice.nextInt(town.courts());
            int hour = dice.nextInt(town.hours);
            due("soonest", gate.soonest(from, hour, to), town.soonest(from, hour, to));
            due("odds", gate.odds(from, hour, to, town.hours), town.odds(from, hour, to, town.hours));
        }
    }
}
