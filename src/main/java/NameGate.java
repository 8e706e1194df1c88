import java.util.Arrays;

/** A town told as a text: gates open to whoever names one who is within the court behind them. */
public final class NameGate {
    public static final int NONE = -1;

    private static final int NO_SUCH = -2;
    private static final int ONLY_SO = -3;
    private static final int BELOW_NOTHING = -3;
    private static final int NO_MORE_TRY = -3;
    private static final int FAULTY = -4;
    private static final int CANNOT_BE = -5;
    private static final int HAS_NOTHING = -6;
    private static final int BEYOND = -7;
    private static final int UNLIKE = -8;

    private static final int MOST_HOURS = 48;
    private static final int MOST_COURTS = 10;
    private static final int MOST_GATES = 16;
    private static final int MOST_PEOPLE = 10;
    private static final int MOST_STRAYERS = 4;
    private static final int MOST_BYTES = 1600;
    private static final int FED_BYTES = 20;
    private static final int SLOTS = 4;
    private static final int IMAGES = 3;
    private static final int MOST_NUMBERS = 60;
    private static final int MOST_DAYS = 100;
    private static final int LAST_SEED = 2000000000;
    private static final int NO_NAME = 99;
    private static final int HUNDRED = 100;
    private static final int ALL = 1000000000;

    private final byte[] tape = new byte[MOST_BYTES];
    private int tapeLength;
    private int faultKind;
    private int faultPlace = NONE;
    private final Image now = new Image();
    private final Image[] images = new Image[IMAGES];
    private final Row[] slots = new Row[SLOTS];
    private final Reader reader = new Reader();
    private final Walk walk = new Walk();
    private final Families families = new Families();
    private final Meeting meeting = new Meeting();
    private final Chances chances = new Chances();
    private final Day day = new Day();

    public NameGate() {
        for (int k = 0; k < IMAGES; k++) {
            images[k] = new Image();
        }
        for (int slot = 0; slot < SLOTS; slot++) {
            slots[slot] = new Row();
        }
    }

    // ---- the tape and the town ----

    public int feed(int a, int b, int c, int d, int e) {
        if (tapeLength + FED_BYTES > MOST_BYTES) {
            return NONE;
        }
        putFour(a);
        putFour(b);
        putFour(c);
        putFour(d);
        putFour(e);
        return tapeLength;
    }

    private void putFour(int number) {
        for (int shift = 24; shift >= 0; shift -= 8) {
            tape[tapeLength] = (byte) (number >> shift);
            tapeLength++;
        }
    }

    public int end(int n) {
        if (n < 0 || n > tapeLength) {
            return NONE;
        }
        tapeLength = n;
        return n;
    }

    public int town() {
        Town told = reader.read(tape, tapeLength);
        // A faulty text goes too: the next one is fed to an empty tape.
        tapeLength = 0;
        faultKind = reader.fault;
        faultPlace = reader.place;
        if (faultKind != 0) {
            return FAULTY;
        }
        now.settle(told);
        return told.lines;
    }

    public int fault(int what) {
        if (what == 0) {
            return faultKind;
        }
        return what == 1 ? faultPlace : NONE;
    }

    public int names(int set) {
        if (!now.town.hasAll(set)) {
            return NO_SUCH;
        }
        int before = now.names;
        now.names = set;
        return before;
    }

    public int strayed(int set) {
        if ((set & ~now.town.strayers) != 0) {
            return NO_SUCH;
        }
        int before = now.strayed;
        now.strayed = set;
        return before;
    }

    // ---- who is where, what opens ----

    public int where(int person, int hour) {
        Town town = now.town;
        if (!town.hasPerson(person) || !town.hasHour(hour)) {
            return NO_SUCH;
        }
        return town.courtOf(person, hour, now.strayed);
    }

    public int within(int court, int hour) {
        Town town = now.town;
        if (!town.hasCourt(court) || !town.hasHour(hour)) {
            return NO_SUCH;
        }
        return town.inside(court, hour, now.strayed);
    }

    public int depth(int court) {
        return now.town.hasCourt(court) ? Integer.bitCount(now.town.above[court]) : NO_SUCH;
    }

    public int lies(int court, int in) {
        Town town = now.town;
        if (!town.hasCourt(court) || !town.hasCourt(in)) {
            return NO_SUCH;
        }
        return town.isFree(court, in) ? 1 : 0;
    }

    public int leads(int gate, int from) {
        Town town = now.town;
        if (!town.hasGate(gate) || !town.hasCourt(from)) {
            return NO_SUCH;
        }
        return town.beyond(gate, from);
    }

    public int opens(int gate, int from, int hour, int name) {
        Town town = now.town;
        if (!town.hasPassage(gate, from, hour) || !town.hasPerson(name)) {
            return NO_SUCH;
        }
        int to = town.beyond(gate, from);
        if (to == NONE) {
            return NONE;
        }
        if (town.isFree(from, to)) {
            return 2;
        }
        return has(now.names & town.inside(to, hour, now.strayed), name) ? 1 : 0;
    }

    public int keys(int gate, int from, int hour) {
        Town town = now.town;
        if (!town.hasPassage(gate, from, hour)) {
            return NO_SUCH;
        }
        int to = town.beyond(gate, from);
        if (to == NONE) {
            return NONE;
        }
        return town.isFree(from, to) ? 0 : now.names & town.inside(to, hour, now.strayed);
    }

    // ---- the soonest way ----

    private void knowNames(int set) {
        walk.know(now.town, set, now.strayed);
    }

    public int soonest(int from, int hour, int to) {
        if (!now.town.hasTrip(from, hour, to)) {
            return NO_SUCH;
        }
        knowNames(now.names);
        return walk.first(from, hour, to, 0);
    }

    public int gates(int from, int hour, int to) {
        if (!now.town.hasTrip(from, hour, to)) {
            return NO_SUCH;
        }
        knowNames(now.names);
        return walk.plan(from, hour, to) ? walk.fewestGates : NONE;
    }

    public int way(int from, int hour, int to, int what) {
        Town town = now.town;
        if (!town.hasTrip(from, hour, to) || what < 0 || what > 2) {
            return NO_SUCH;
        }
        knowNames(now.names);
        if (from == to || !walk.plan(from, hour, to)) {
            return NONE;
        }
        if (what == 0) {
            return walk.firstGate;
        }
        return what == 1 ? leastKey(from) : walk.firstHour;
    }

    private int leastKey(int from) {
        Town town = now.town;
        int to = town.beyond(walk.firstGate, from);
        if (town.isFree(from, to)) {
            return NO_NAME;
        }
        return Integer.numberOfTrailingZeros(now.names & town.inside(to, walk.firstHour, now.strayed));
    }

    public int reach(int from, int hour) {
        if (!now.town.hasCourt(from) || !now.town.hasHour(hour)) {
            return NO_SUCH;
        }
        knowNames(now.names);
        return walk.ever(from, hour);
    }

    public int latest(int from, int to) {
        if (!now.town.hasCourt(from) || !now.town.hasCourt(to)) {
            return NO_SUCH;
        }
        knowNames(now.names);
        return walk.lastStart(from, to);
    }

    // ---- what names are worth ----

    public int need(int name, int from, int hour, int to) {
        if (!now.town.hasTrip(from, hour, to) || !now.town.hasPerson(name)) {
            return NO_SUCH;
        }
        knowNames(now.names);
        int with = walk.first(from, hour, to, 0);
        if (with == NONE) {
            return NONE;
        }
        if (!has(now.names, name)) {
            return 0;
        }
        knowNames(now.names & ~(1 << name));
        int without = walk.first(from, hour, to, 0);
        return without == NONE ? ONLY_SO : without - with;
    }

    public int fewest(int from, int hour, int to, int by, int what) {
        Town town = now.town;
        if (!town.hasTripBy(from, hour, to, by) || what < 0 || what > 1) {
            return NO_SUCH;
        }
        families.spread(town, now.strayed, from, hour, by);
        return sizeOrSet(families.leastSetTo(1 << to), what);
    }

    public int every(int what) {
        Town town = now.town;
        if (!town.hasCourt(0) || what < 0 || what > 1) {
            return NO_SUCH;
        }
        families.spread(town, now.strayed, 0, 0, town.hours);
        return sizeOrSet(families.leastSetTo((1 << town.courts) - 1), what);
    }

    private static int sizeOrSet(int set, int what) {
        if (set == NONE) {
            return NONE;
        }
        return what == 0 ? Integer.bitCount(set) : set;
    }

    public int ways(int from, int hour, int to, int then) {
        Town town = now.town;
        if (!town.hasTripBy(from, hour, to, then) || then == hour) {
            return NO_SUCH;
        }
        knowNames(now.names);
        return walk.numberOfWays(from, hour, to, then);
    }

    public int out(int from, int hour, int to, int what) {
        Town town = now.town;
        if (!town.hasTrip(from, hour, to) || what < 0 || what > 1) {
            return NO_SUCH;
        }
        families.spread(town, now.strayed, from, hour, town.hours);
        return sizeOrSet(families.leastLossFor(to, now.names), what);
    }

    public int alone(int from, int hour, int to, int follower) {
        Town town = now.town;
        if (!town.hasTrip(from, hour, to) || !town.hasAll(follower)) {
            return NO_SUCH;
        }
        knowNames(now.names);
        walk.beFollowed(follower, now.strayed);
        return walk.firstAlone(from, hour, to);
    }

    // ---- together ----

    public int both(int one, int other, int hour, int to) {
        if (!now.town.hasTrip(one, hour, to) || !now.town.hasCourt(other)) {
            return NO_SUCH;
        }
        knowNames(now.names);
        return meeting.firstOfTwo(walk, one, other, hour, to);
    }

    public int friend(int one, int other, int hour, int to) {
        int together = both(one, other, hour, to);
        if (together < 0) {
            return together;
        }
        int first = walk.first(one, hour, to, 0);
        int second = walk.first(other, hour, to, 0);
        if (first == NONE || second == NONE) {
            return ONLY_SO;
        }
        return Math.max(first, second) - together;
    }

    public int teach(int from, int hour, int to, int what) {
        Town town = now.town;
        if (!town.hasTrip(from, hour, to) || what < 0 || what > 1) {
            return NO_SUCH;
        }
        knowNames(now.names);
        int before = walk.first(from, hour, to, 0);
        int soonest = before;
        int name = NONE;
        for (int person = 0; person < town.people; person++) {
            if (!has(now.names, person)) {
                knowNames(now.names | 1 << person);
                int then = walk.first(from, hour, to, 0);
                if (isSooner(then, soonest)) {
                    soonest = then;
                    name = person;
                }
            }
        }
        if (name == NONE || what == 0) {
            return name;
        }
        return before == NONE ? ONLY_SO : before - soonest;
    }

    private static boolean isSooner(int hour, int than) {
        return hour != NONE && (than == NONE || hour < than);
    }

    public int host(int person, int from, int hour, int to, int what) {
        Town town = now.town;
        if (!town.hasTrip(from, hour, to) || !town.hasPerson(person) || what < 0 || what > 1) {
            return NO_SUCH;
        }
        knowNames(now.names & ~(1 << person));
        int soonest = NONE;
        int court = NONE;
        for (int home = 0; home < town.courts; home++) {
            int shown = has(now.names, person) ? town.shows[home] : 0;
            int then = walk.first(from, hour, to, shown);
            if (isSooner(then, soonest)) {
                soonest = then;
                court = home;
            }
        }
        return what == 0 ? court : soonest;
    }

    public int three(int one, int other, int third, int hour, int to) {
        Town town = now.town;
        if (!town.hasTrip(one, hour, to) || !town.hasCourt(other) || !town.hasCourt(third)) {
            return NO_SUCH;
        }
        knowNames(now.names);
        meeting.startThree(one, other, third);
        return meeting.firstOfThree(walk, hour, to);
    }

    public int vital(int from, int hour, int to) {
        if (!now.town.hasTrip(from, hour, to)) {
            return NO_SUCH;
        }
        knowNames(now.names);
        return walk.vitalGates(from, hour, to);
    }

    // ---- what it is worth to be told ----

    private long weigh(int from, int hour, int to, int by) {
        chances.know(now.town, now.names, now.known, now.gone);
        chances.solve(hour, to, by);
        return chances.worthAt(from, hour, 0);
    }

    public long tell(int person, int from, int hour, int to, int by) {
        if (!now.town.hasTripBy(from, hour, to, by) || !now.town.hasPerson(person)) {
            return NO_SUCH;
        }
        weigh(from, hour, to, by);
        return chances.gainByTelling(person, from, hour);
    }

    public int tells(int from, int hour, int to, int by) {
        if (!now.town.hasTripBy(from, hour, to, by)) {
            return NO_SUCH;
        }
        weigh(from, hour, to, by);
        long most = 0;
        int teller = NONE;
        for (int person = 0; person < now.town.people; person++) {
            long gain = chances.gainByTelling(person, from, hour);
            if (gain > most) {
                most = gain;
                teller = person;
            }
        }
        return teller;
    }

    public int until(int from, int hour, int to, int hundredths) {
        Town town = now.town;
        if (!town.hasTrip(from, hour, to) || hundredths < 1 || hundredths > HUNDRED) {
            return NO_SUCH;
        }
        long wanted = (long) hundredths * (ALL / HUNDRED);
        if (weigh(from, hour, to, town.hours) < wanted) {
            return NONE;
        }
        // More time never lowers the odds, so the first hour can be found by halving.
        int low = hour;
        int high = town.hours;
        for (int turn = 0; turn < MOST_HOURS && low < high; turn++) {
            int middle = (low + high) / 2;
            if (weigh(from, hour, to, middle) >= wanted) {
                high = middle;
            } else {
                low = middle + 1;
            }
        }
        return low;
    }

    // ---- courts that stand empty ----

    public int empty(int court) {
        Town town = now.town;
        if (!town.hasCourt(court)) {
            return NO_SUCH;
        }
        int first = town.hours;
        for (int hour = town.hours - 1; hour >= 0; hour--) {
            if (town.inside(court, hour, now.strayed) != 0) {
                return first;
            }
            first = hour;
        }
        return first;
    }

    public int hollow(int court) {
        Town town = now.town;
        if (!town.hasCourt(court)) {
            return NO_SUCH;
        }
        int number = 0;
        for (int hour = 0; hour < town.hours; hour++) {
            if (town.inside(court, hour, now.strayed) == 0) {
                number++;
            }
        }
        return number;
    }

    public int keeper(int court) {
        Town town = now.town;
        if (!town.hasCourt(court)) {
            return NO_SUCH;
        }
        int most = 0;
        int keeper = NONE;
        for (int person = 0; person < town.people; person++) {
            int number = 0;
            for (int hour = 0; hour < town.hours; hour++) {
                if (town.inside(court, hour, now.strayed) == 1 << person) {
                    number++;
                }
            }
            if (number > most) {
                most = number;
                keeper = person;
            }
        }
        return keeper;
    }

    // ---- what is heard, and thought by it ----

    public int hear(int person, int court, int hour, boolean is) {
        Town town = now.town;
        if (!town.hasPerson(person) || !town.hasCourt(court) || !town.hasHour(hour)) {
            return NO_SUCH;
        }
        int bit = 1 << person;
        boolean mayBeGone = has(town.strayers, person) && (!has(now.known, person) || has(now.gone, person));
        boolean mayBeTold = !has(now.known, person) || !has(now.gone, person);
        boolean gone = mayBeGone && has(town.showsOf(person, hour, bit), court) == is;
        boolean told = mayBeTold && has(town.showsOf(person, hour, 0), court) == is;
        if (!gone && !told) {
            return CANNOT_BE;
        }
        if (gone && told) {
            return 0;
        }
        now.known |= bit & town.strayers;
        if (gone) {
            now.gone |= bit;
        }
        return 1;
    }

    public int forget() {
        int number = Integer.bitCount(now.known);
        now.known = 0;
        now.gone = 0;
        return number;
    }

    public int think(int person, int court, int hour) {
        Town town = now.town;
        if (!town.hasPerson(person) || !town.hasCourt(court) || !town.hasHour(hour)) {
            return NO_SUCH;
        }
        return now.thought(person, court, hour);
    }

    public int likely(int gate, int from, int hour, int what) {
        Town town = now.town;
        if (!town.hasPassage(gate, from, hour) || what < 0 || what > 1) {
            return NO_SUCH;
        }
        int to = town.beyond(gate, from);
        if (to == NONE || town.isFree(from, to)) {
            return NONE;
        }
        int most = NONE;
        int name = NONE;
        for (int person = 0; person < town.people; person++) {
            if (has(now.names, person) && now.thought(person, to, hour) > most) {
                most = now.thought(person, to, hour);
                name = person;
            }
        }
        return what == 0 ? name : most;
    }

    // ---- the odds to come in by trying ----

    public long odds(int from, int hour, int to, int by) {
        if (!now.town.hasTripBy(from, hour, to, by)) {
            return NO_SUCH;
        }
        return weigh(from, hour, to, by);
    }

    public int best(int from, int hour, int to, int by) {
        if (!now.town.hasTripBy(from, hour, to, by)) {
            return NO_SUCH;
        }
        if (from == to || hour == by) {
            return NO_MORE_TRY;
        }
        weigh(from, hour, to, by);
        return chances.choose(from, hour, 0);
    }

    public long sure(int from, int hour, int to, int by) {
        if (!now.town.hasTripBy(from, hour, to, by)) {
            return NO_SUCH;
        }
        walk.knowSurely(now);
        return isBy(walk.first(from, hour, to, 0), by) ? ALL : 0;
    }

    private static boolean isBy(int hour, int by) {
        return hour != NONE && hour <= by;
    }

    public long list(int from, int hour, int to, int by) {
        Town town = now.town;
        if (!town.hasTripBy(from, hour, to, by)) {
            return NO_SUCH;
        }
        // Those whom one can't name open nothing: their chances add up to one whole again.
        int unsure = town.strayers & now.names & ~now.known;
        long together = 0;
        for (int gone = 0; gone < 1 << town.people; gone++) {
            if ((gone & ~unsure) == 0) {
                walk.know(town, now.names, now.gone | gone);
                if (isBy(walk.first(from, hour, to, 0), by)) {
                    together += town.chanceOf(unsure, gone);
                }
            }
        }
        return together;
    }

    public long price(int from, int hour, int to, int by) {
        long listed = list(from, hour, to, by);
        return listed < 0 ? listed : listed - weigh(from, hour, to, by);
    }

    public int begin(int from, int to, int a, int b) {
        Town town = now.town;
        if (!town.hasTrip(from, a, to) || !town.hasHour(b) || a > b) {
            return NO_SUCH;
        }
        // Whoever begins first can stay until any later hour, so no later one has greater odds.
        return a;
    }

    // ---- days judged, days drawn ----

    private static boolean isSlot(int slot) {
        return slot >= 0 && slot < SLOTS;
    }

    private int liveBy(int slot) {
        if (!isSlot(slot) || now.town.hours == 0) {
            return NO_SUCH;
        }
        if (!slots[slot].isThere()) {
            return HAS_NOTHING;
        }
        day.live(now, slots[slot]);
        return 0;
    }

    public int judge(int slot) {
        int answer = liveBy(slot);
        return answer < 0 ? answer : day.place;
    }

    public int ends(int slot, int what) {
        if (what < 0 || what > 2) {
            return NO_SUCH;
        }
        int answer = liveBy(slot);
        if (answer < 0) {
            return answer;
        }
        if (what == 0) {
            return day.court;
        }
        return what == 1 ? day.hour : day.refusals;
    }

    public int draw(int seed) {
        if (seed < 0 || seed > LAST_SEED || now.town.hours == 0) {
            return NO_SUCH;
        }
        return now.town.drawn(seed);
    }

    public int days(int seed, int n, int from, int to, int by) {
        Town town = now.town;
        if (seed < 0 || seed > LAST_SEED || n < 1 || n > MOST_DAYS || !town.hasTripBy(from, 0, to, by)) {
            return NO_SUCH;
        }
        chances.know(town, now.names, 0, 0);
        chances.solve(0, to, by);
        chances.liveAllDays(from);
        int number = 0;
        for (int i = 0; i < n; i++) {
            if (chances.comesOn(town.drawn((long) seed + i))) {
                number++;
            }
        }
        return number;
    }

    // ---- counts, images, rows ----

    public int count(int what) {
        Town town = now.town;
        switch (what) {
            case 0:
                return town.courts;
            case 1:
                return town.hours;
            case 2:
                return town.gateCount;
            case 3:
                return town.people;
            case 4:
                return town.lines;
            case 5:
                return tapeLength;
            case 6:
                return town.strayers;
            case 7:
                return now.known;
            case 8:
                return town.falseHours;
            case 9:
                return town.deep ? 1 : 0;
            case 10:
                return rowsThere();
            default:
                return NONE;
        }
    }

    private int rowsThere() {
        int number = 0;
        for (int slot = 0; slot < SLOTS; slot++) {
            if (slots[slot].isThere()) {
                number++;
            }
        }
        return number;
    }

    private static boolean isImage(int k) {
        return k >= 0 && k < IMAGES;
    }

    public int keep(int k) {
        if (!isImage(k)) {
            return NO_SUCH;
        }
        images[k].take(now);
        images[k].isKept = true;
        return 0;
    }

    public int back(int k) {
        if (!isImage(k)) {
            return NO_SUCH;
        }
        if (!images[k].isKept) {
            return HAS_NOTHING;
        }
        now.take(images[k]);
        return 0;
    }

    public int row(int slot, int width, int n) {
        if (!isSlot(slot) || width < 0 || width > 3 || n > MOST_NUMBERS) {
            return NO_SUCH;
        }
        if (n < 0) {
            return BELOW_NOTHING;
        }
        slots[slot].make(width, n);
        return 0;
    }

    public int write(int slot, int i, long v) {
        if (!isSlot(slot)) {
            return NO_SUCH;
        }
        Row row = slots[slot];
        if (!row.isThere()) {
            return HAS_NOTHING;
        }
        if (!row.hasSpan(i, 1)) {
            return BEYOND;
        }
        row.put(i, v);
        return 0;
    }

    public int paste(int slot, int i, int to, int k, int n) {
        if (!isSlot(slot) || !isSlot(to)) {
            return NO_SUCH;
        }
        Row source = slots[slot];
        Row target = slots[to];
        if (!source.isThere() || !target.isThere()) {
            return HAS_NOTHING;
        }
        if (source.width != target.width) {
            return UNLIKE;
        }
        if (!source.hasSpan(i, n) || !target.hasSpan(k, n)) {
            return BEYOND;
        }
        System.arraycopy(source.numbers, i, target.numbers, k, n);
        return 0;
    }

    private static boolean has(int set, int member) {
        return (set >> member & 1) != 0;
    }

    /** A town as it was told: once read, it is never changed, so images may share it. */
    static final class Town {
        int hours;
        int courts;
        int gateCount;
        int people;
        int lines;
        int falseHours;
        int strayers;
        boolean deep;
        /** The courts in which a court lies, as bits. */
        final int[] above = new int[MOST_COURTS];
        /** The courts to which gates lead from a court, as bits; how many, and which. */
        final int[] doors = new int[MOST_COURTS];
        final int[] degrees = new int[MOST_COURTS];
        final int[] neighbours = new int[MOST_COURTS * MOST_COURTS];
        /** The courts within which one is who is in a court, as bits. */
        final int[] shows = new int[MOST_COURTS];
        final int[] oneEnd = new int[MOST_GATES];
        final int[] otherEnd = new int[MOST_GATES];
        final int[] told = new int[MOST_PEOPLE * MOST_HOURS];
        final int[] strayParts = new int[MOST_PEOPLE];
        final int[] strayCourts = new int[MOST_PEOPLE];

        boolean hasCourt(int court) {
            return court >= 0 && court < courts;
        }

        boolean hasHour(int hour) {
            return hour >= 0 && hour < hours;
        }

        boolean hasGate(int gate) {
            return gate >= 0 && gate < gateCount;
        }

        boolean hasPerson(int person) {
            return person >= 0 && person < people;
        }

        boolean hasAll(int set) {
            return set >= 0 && set < 1 << people;
        }

        boolean hasPassage(int gate, int from, int hour) {
            return hasGate(gate) && hasCourt(from) && hasHour(hour);
        }

        boolean hasTrip(int from, int hour, int to) {
            return hasCourt(from) && hasHour(hour) && hasCourt(to);
        }

        boolean hasTripBy(int from, int hour, int to, int by) {
            return hasTrip(from, hour, to) && by >= hour && by <= hours;
        }

        int courtOf(int person, int hour, int strayedSet) {
            boolean isGone = (strayedSet >> person & 1) != 0;
            return isGone ? strayCourts[person] : told[person * MOST_HOURS + hour];
        }

        int showsOf(int person, int hour, int strayedSet) {
            return shows[courtOf(person, hour, strayedSet)];
        }

        int inside(int court, int hour, int strayedSet) {
            int set = 0;
            for (int person = 0; person < people; person++) {
                if (has(showsOf(person, hour, strayedSet), court)) {
                    set |= 1 << person;
                }
            }
            return set;
        }

        int beyond(int gate, int from) {
            if (oneEnd[gate] == from) {
                return otherEnd[gate];
            }
            return otherEnd[gate] == from ? oneEnd[gate] : NONE;
        }

        boolean isFree(int from, int to) {
            return has(above[from], to);
        }

        /** The courts one can open at an hour by these names, as bits. */
        int openBy(int set, int hour, int strayedSet) {
            int open = 0;
            for (int person = 0; person < people; person++) {
                if (has(set, person)) {
                    open |= showsOf(person, hour, strayedSet);
                }
            }
            return open;
        }

        long chanceOf(int unsure, int gone) {
            long chance = ALL;
            for (int person = 0; person < people; person++) {
                if (has(unsure, person)) {
                    int part = has(gone, person) ? strayParts[person] : HUNDRED - strayParts[person];
                    chance = chance * part / HUNDRED;
                }
            }
            return chance;
        }

        int drawn(long seed) {
            long x = seed;
            int set = 0;
            for (int person = 0; person < people; person++) {
                if (has(strayers, person)) {
                    x = (1103515245L * x + 12345L) % 2147483648L;
                    if (x / 65536L % HUNDRED < strayParts[person]) {
                        set |= 1 << person;
                    }
                }
            }
            return set;
        }
    }

    /** Reads a text into a town, and stops at its first fault. */
    static final class Reader {
        private static final int BLANK = 0;
        private static final int WORD = 1;
        private static final int NUMBER = 2;
        private static final int STOP = 3;
        private static final int ODD = 4;
        private static final int END = 5;
        private static final int WRONG_TOKEN = 1;
        private static final int WRONG_NUMBER = 2;
        private static final int TOO_MANY = 3;
        private static final int HUGE = 100000;

        int fault;
        int place;
        private byte[] text = new byte[0];
        /** The tokens, the end behind them: what they are, their first bytes, the bytes behind them. */
        private final int[] kinds = new int[MOST_BYTES + 1];
        private final int[] starts = new int[MOST_BYTES + 1];
        private final int[] stops = new int[MOST_BYTES + 1];
        private final int[] values = new int[MOST_BYTES + 1];
        private int tokens;
        private int at;
        private Town town = new Town();
        private int strayCount;
        private boolean lawTold;
        private boolean falseTold;

        Town read(byte[] bytes, int size) {
            text = bytes;
            split(Math.min(size, bytes.length));
            fault = 0;
            place = NONE;
            at = 0;
            strayCount = 0;
            lawTold = false;
            falseTold = false;
            town = new Town();
            for (int turn = 0; turn < MOST_BYTES && kinds[at] != END && fault == 0; turn++) {
                readLine();
            }
            showPlaces();
            return town;
        }

        private void split(int size) {
            tokens = 0;
            int before = BLANK;
            for (int i = 0; i < size; i++) {
                int kind = kindOf(text[i]);
                boolean goesOn = kind == before && (kind == WORD || kind == NUMBER);
                if (kind != BLANK && !goesOn) {
                    addToken(kind, i);
                }
                if (kind != BLANK) {
                    stops[tokens - 1] = i + 1;
                }
                if (kind == NUMBER) {
                    values[tokens - 1] = Math.min(values[tokens - 1] * 10 + text[i] - '0', HUGE);
                }
                before = kind;
            }
            kinds[tokens] = END;
            starts[tokens] = size;
        }

        private void addToken(int kind, int start) {
            kinds[tokens] = kind;
            starts[tokens] = start;
            values[tokens] = 0;
            tokens++;
        }

        private static int kindOf(int sign) {
            if (sign == ' ' || sign == '\n') {
                return BLANK;
            }
            if (sign >= 'a' && sign <= 'z') {
                return WORD;
            }
            if (sign >= '0' && sign <= '9') {
                return NUMBER;
            }
            return sign == ';' ? STOP : ODD;
        }

        private void showPlaces() {
            for (int court = 0; court < town.courts; court++) {
                town.shows[court] = town.deep ? town.above[court] | 1 << court : 1 << court;
            }
        }

        private void blame(int what) {
            if (fault == 0) {
                fault = what;
                place = starts[at];
            }
        }

        private void advance() {
            if (fault == 0 && at < tokens) {
                at++;
            }
        }

        private boolean isWord(String word) {
            if (kinds[at] != WORD || stops[at] - starts[at] != word.length()) {
                return false;
            }
            for (int i = 0; i < word.length(); i++) {
                if (text[starts[at] + i] != word.charAt(i)) {
                    return false;
                }
            }
            return true;
        }

        private void expectWord(String word) {
            if (!isWord(word)) {
                blame(WRONG_TOKEN);
            }
            advance();
        }

        private int expectNumber(int low, int high) {
            int number = values[at];
            if (kinds[at] != NUMBER) {
                blame(WRONG_TOKEN);
            } else if (number < low || number > high) {
                blame(WRONG_NUMBER);
            }
            advance();
            return fault == 0 ? number : 0;
        }

        private int expectCourt() {
            return expectNumber(0, town.courts - 1);
        }

        private void readLine() {
            if (town.lines == 0) {
                readHours();
            } else if (isWord("court")) {
                readCourt();
            } else if (isWord("gate")) {
                readGate();
            } else if (isWord("person")) {
                readPerson();
            } else if (isWord("law")) {
                readLaw();
            } else if (isWord("false")) {
                readFalse();
            } else {
                blame(WRONG_TOKEN);
            }
            if (kinds[at] != STOP) {
                blame(WRONG_TOKEN);
            }
            advance();
            town.lines++;
        }

        private void readHours() {
            expectWord("town");
            expectWord("hours");
            town.hours = expectNumber(1, MOST_HOURS);
            town.courts = 1;
            town.deep = true;
        }

        private void readCourt() {
            if (town.courts >= MOST_COURTS) {
                blame(TOO_MANY);
                return;
            }
            advance();
            expectWord("in");
            int around = expectCourt();
            if (fault == 0) {
                town.above[town.courts] = town.above[around] | 1 << around;
                town.courts++;
            }
        }

        private void readGate() {
            if (town.gateCount >= MOST_GATES) {
                blame(TOO_MANY);
                return;
            }
            advance();
            int one = expectCourt();
            expectWord("to");
            if (kinds[at] == NUMBER && values[at] == one) {
                blame(WRONG_NUMBER);
            }
            int other = expectCourt();
            if (fault == 0) {
                town.oneEnd[town.gateCount] = one;
                town.otherEnd[town.gateCount] = other;
                town.gateCount++;
                joinTo(one, other);
                joinTo(other, one);
            }
        }

        private void joinTo(int court, int other) {
            if (!has(town.doors[court], other)) {
                town.doors[court] |= 1 << other;
                town.neighbours[court * MOST_COURTS + town.degrees[court]] = other;
                town.degrees[court]++;
            }
        }

        private void readPerson() {
            if (town.people >= MOST_PEOPLE) {
                blame(TOO_MANY);
                return;
            }
            advance();
            expectWord("at");
            placeFrom(0, expectCourt());
            int from = 0;
            for (int turn = 0; turn < MOST_HOURS && fault == 0 && isWord("from"); turn++) {
                advance();
                from = expectNumber(from + 1, town.hours - 1);
                expectWord("at");
                placeFrom(from, expectCourt());
            }
            if (fault == 0 && isWord("strays")) {
                readStrays();
            }
            town.people++;
        }

        private void placeFrom(int from, int court) {
            for (int hour = from; hour < town.hours; hour++) {
                town.told[town.people * MOST_HOURS + hour] = court;
            }
        }

        private void readStrays() {
            if (strayCount >= MOST_STRAYERS) {
                blame(WRONG_NUMBER);
                return;
            }
            strayCount++;
            advance();
            town.strayers |= 1 << town.people;
            town.strayParts[town.people] = expectNumber(1, HUNDRED - 1);
            expectWord("to");
            town.strayCourts[town.people] = expectCourt();
        }

        private void readLaw() {
            if (lawTold) {
                blame(WRONG_NUMBER);
                return;
            }
            lawTold = true;
            advance();
            town.deep = isWord("deep");
            if (town.deep || isWord("here")) {
                advance();
            } else {
                blame(WRONG_TOKEN);
            }
        }

        private void readFalse() {
            if (falseTold) {
                blame(WRONG_NUMBER);
                return;
            }
            falseTold = true;
            advance();
            town.falseHours = expectNumber(0, 9);
        }
    }

    /** What an image keeps: the town, who has strayed, the names one knows, what is heard. */
    static final class Image {
        boolean isKept;
        Town town = new Town();
        int strayed;
        int names;
        /** Those of whom it was heard whether they have strayed, and those of them who have. */
        int known;
        int gone;

        void settle(Town told) {
            town = told;
            strayed = 0;
            names = 0;
            known = 0;
            gone = 0;
        }

        void take(Image other) {
            town = other.town;
            strayed = other.strayed;
            names = other.names;
            known = other.known;
            gone = other.gone;
        }

        int unsure() {
            return town.strayers & ~known;
        }

        int thought(int person, int court, int hour) {
            if (!has(unsure(), person)) {
                return has(town.showsOf(person, hour, gone), court) ? HUNDRED : 0;
            }
            int part = town.strayParts[person];
            int parts = has(town.showsOf(person, hour, 0), court) ? HUNDRED - part : 0;
            return has(town.showsOf(person, hour, 1 << person), court) ? parts + part : parts;
        }
    }

    /** A slot's row of numbers of one width. */
    static final class Row {
        int width = NONE;
        int size;
        final long[] numbers = new long[MOST_NUMBERS];

        boolean isThere() {
            return width != NONE;
        }

        void make(int bytesWidth, int n) {
            width = bytesWidth;
            size = n;
            Arrays.fill(numbers, 0L);
        }

        boolean hasSpan(int from, int n) {
            return from >= 0 && n >= 0 && n <= size && from <= size - n;
        }

        void put(int i, long v) {
            switch (width) {
                case 0:
                    numbers[i] = (byte) v;
                    break;
                case 1:
                    numbers[i] = (short) v;
                    break;
                case 2:
                    numbers[i] = (int) v;
                    break;
                default:
                    numbers[i] = v;
                    break;
            }
        }
    }

    /** One's ways through a town by names that surely open. */
    static final class Walk {
        private static final int FAR = 1000;
        private static final long MODULUS = 1000000007L;

        int fewestGates;
        int firstGate;
        int firstHour;
        Town town = new Town();
        /** By hour: the courts that one can open, and those that one's follower can. */
        final int[] open = new int[MOST_HOURS];
        private final int[] followed = new int[MOST_HOURS];
        private final int[] doors = new int[MOST_COURTS];
        private final int[] costs = new int[MOST_COURTS];
        private final int[] lower = new int[MOST_COURTS];
        private final long[] numbers = new long[MOST_COURTS];
        private final long[] more = new long[MOST_COURTS];

        void know(Town place, int names, int strayedSet) {
            enter(place);
            for (int hour = 0; hour < place.hours; hour++) {
                open[hour] = place.openBy(names, hour, strayedSet);
            }
        }

        void knowSurely(Image heard) {
            enter(heard.town);
            int unsure = heard.names & heard.unsure();
            int certain = heard.names & ~heard.unsure();
            for (int hour = 0; hour < town.hours; hour++) {
                open[hour] = town.openBy(certain, hour, heard.gone);
                for (int person = 0; person < town.people; person++) {
                    if (has(unsure, person)) {
                        open[hour] |= town.showsOf(person, hour, 0) & town.showsOf(person, hour, 1 << person);
                    }
                }
            }
        }

        private void enter(Town place) {
            town = place;
            System.arraycopy(place.doors, 0, doors, 0, MOST_COURTS);
        }

        void beFollowed(int names, int strayedSet) {
            for (int hour = 0; hour < town.hours; hour++) {
                followed[hour] = town.openBy(names, hour, strayedSet);
            }
        }

        /** The courts to which one may go from a court at an hour; extra ones are open too. */
        int passages(int court, int hour, int extra) {
            return doors[court] & (town.above[court] | open[hour] | extra);
        }

        private int spread(int set, int hour, int extra) {
            int next = set;
            for (int court = 0; court < town.courts; court++) {
                if (has(set, court)) {
                    next |= passages(court, hour, extra);
                }
            }
            return next;
        }

        int first(int from, int hour, int to, int extra) {
            int set = 1 << from;
            for (int h = hour; h < town.hours; h++) {
                if (has(set, to)) {
                    return h;
                }
                set = spread(set, h, extra);
            }
            return has(set, to) ? town.hours : NONE;
        }

        int ever(int from, int hour) {
            int set = 1 << from;
            for (int h = hour; h < town.hours; h++) {
                set = spread(set, h, 0);
            }
            return set;
        }

        int lastStart(int from, int to) {
            int good = 1 << to;
            for (int hour = town.hours - 1; hour >= 0; hour--) {
                int before = good;
                for (int court = 0; court < town.courts; court++) {
                    if ((passages(court, hour, 0) & good) != 0) {
                        before |= 1 << court;
                    }
                }
                good = before;
                if (has(good, from)) {
                    return hour;
                }
            }
            return NONE;
        }

        /** Finds the fewest gates of the soonest ways and the first gate of the best one; false: never. */
        boolean plan(int from, int hour, int to) {
            int soon = first(from, hour, to, 0);
            if (soon == NONE) {
                return false;
            }
            Arrays.fill(costs, FAR);
            costs[to] = 0;
            firstGate = NONE;
            firstHour = NONE;
            for (int h = soon - 1; h >= hour; h--) {
                for (int court = 0; court < town.courts; court++) {
                    lower[court] = Math.min(costs[court], 1 + leastCost(passages(court, h, 0)));
                }
                // Backward in time a like cost comes later: the latest hour stays noted.
                if (lower[from] < costs[from]) {
                    firstHour = h;
                    firstGate = gateOf(from, h, lower[from] - 1);
                }
                System.arraycopy(lower, 0, costs, 0, MOST_COURTS);
            }
            fewestGates = costs[from];
            return true;
        }

        private int leastCost(int set) {
            int least = FAR;
            for (int court = 0; court < town.courts; court++) {
                if (has(set, court)) {
                    least = Math.min(least, costs[court]);
                }
            }
            return least;
        }

        private int gateOf(int from, int hour, int cost) {
            int set = passages(from, hour, 0);
            for (int gate = 0; gate < town.gateCount; gate++) {
                int to = town.beyond(gate, from);
                if (to != NONE && has(set, to) && costs[to] == cost) {
                    return gate;
                }
            }
            return NONE;
        }

        int numberOfWays(int from, int hour, int to, int then) {
            Arrays.fill(numbers, 0L);
            numbers[from] = 1;
            for (int h = hour; h < then; h++) {
                System.arraycopy(numbers, 0, more, 0, MOST_COURTS);
                for (int gate = 0; gate < town.gateCount; gate++) {
                    addWays(town.oneEnd[gate], town.otherEnd[gate], h);
                    addWays(town.otherEnd[gate], town.oneEnd[gate], h);
                }
                System.arraycopy(more, 0, numbers, 0, MOST_COURTS);
            }
            return (int) numbers[to];
        }

        private void addWays(int from, int to, int hour) {
            if (has(passages(from, hour, 0), to)) {
                more[to] = (more[to] + numbers[from]) % MODULUS;
            }
        }

        int firstAlone(int from, int hour, int to) {
            int set = 1 << from;
            int shaken = 0;
            for (int h = hour; h < town.hours; h++) {
                if (has(shaken, to)) {
                    return h;
                }
                shaken = spread(shaken, h, 0);
                for (int court = 0; court < town.courts; court++) {
                    if (has(set, court)) {
                        shaken |= passages(court, h, 0) & ~town.above[court] & ~followed[h];
                    }
                }
                set = spread(set, h, 0);
            }
            return has(shaken, to) ? town.hours : NONE;
        }

        int vitalGates(int from, int hour, int to) {
            if (first(from, hour, to, 0) == NONE) {
                return NONE;
            }
            int set = 0;
            for (int gate = 0; gate < town.gateCount; gate++) {
                openAllBut(gate);
                if (first(from, hour, to, 0) == NONE) {
                    set |= 1 << gate;
                }
            }
            return set;
        }

        private void openAllBut(int shut) {
            Arrays.fill(doors, 0);
            for (int gate = 0; gate < town.gateCount; gate++) {
                if (gate != shut) {
                    doors[town.oneEnd[gate]] |= 1 << town.otherEnd[gate];
                    doors[town.otherEnd[gate]] |= 1 << town.oneEnd[gate];
                }
            }
        }
    }

    /** By court, all sets of names by which one can be there: one bit for each set of people. */
    static final class Families {
        private static final int WORDS = 16;
        private static final int SETS_IN_WORD = 64;
        private static final int PEOPLE_IN_WORD = 6;
        /** The sets of a word that have person 0, 1, .. 5. */
        private static final long[] WITH_PERSON = {
            0xAAAAAAAAAAAAAAAAL, 0xCCCCCCCCCCCCCCCCL, 0xF0F0F0F0F0F0F0F0L,
            0xFF00FF00FF00FF00L, 0xFFFF0000FFFF0000L, 0xFFFFFFFF00000000L};

        private Town town = new Town();
        private int words;
        private final long[] here = new long[MOST_COURTS * WORDS];
        private final long[] next = new long[MOST_COURTS * WORDS];

        void spread(Town place, int strayedSet, int from, int hour, int by) {
            town = place;
            words = Math.max(1, (1 << place.people) / SETS_IN_WORD);
            Arrays.fill(here, 0L);
            for (int word = 0; word < words; word++) {
                here[from * WORDS + word] = -1L;
            }
            for (int h = hour; h < by; h++) {
                System.arraycopy(here, 0, next, 0, MOST_COURTS * WORDS);
                for (int court = 0; court < town.courts; court++) {
                    enter(court, town.inside(court, h, strayedSet));
                }
                System.arraycopy(next, 0, here, 0, MOST_COURTS * WORDS);
            }
        }

        private void enter(int to, int keys) {
            for (int word = 0; word < words; word++) {
                long opening = setsWithOneOf(keys, word);
                for (int i = 0; i < town.degrees[to]; i++) {
                    int from = town.neighbours[to * MOST_COURTS + i];
                    long passing = town.isFree(from, to) ? -1L : opening;
                    next[to * WORDS + word] |= here[from * WORDS + word] & passing;
                }
            }
        }

        private long setsWithOneOf(int keys, int word) {
            long sets = 0;
            for (int person = 0; person < town.people; person++) {
                if (has(keys, person)) {
                    sets |= setsWith(person, word);
                }
            }
            return sets;
        }

        private static long setsWith(int person, int word) {
            if (person < PEOPLE_IN_WORD) {
                return WITH_PERSON[person];
            }
            return has(word, person - PEOPLE_IN_WORD) ? -1L : 0L;
        }

        private boolean comesTo(int court, int set) {
            return (here[court * WORDS + set / SETS_IN_WORD] >>> set % SETS_IN_WORD & 1L) != 0;
        }

        private boolean comesToAll(int courts, int set) {
            for (int court = 0; court < town.courts; court++) {
                if (has(courts, court) && !comesTo(court, set)) {
                    return false;
                }
            }
            return true;
        }

        int leastSetTo(int courts) {
            int least = NONE;
            for (int set = 0; set < 1 << town.people; set++) {
                if (isFewer(set, least) && comesToAll(courts, set)) {
                    least = set;
                }
            }
            return least;
        }

        int leastLossFor(int court, int names) {
            int least = NONE;
            for (int set = 0; set < 1 << town.people; set++) {
                if (isFewer(set, least) && !comesTo(court, names & ~set)) {
                    least = set;
                }
            }
            return least;
        }

        private static boolean isFewer(int set, int than) {
            return than == NONE || Integer.bitCount(set) < Integer.bitCount(than);
        }
    }

    /** Two or three who go at once, and may name one another. */
    static final class Meeting {
        /** By the first one's court: the courts in which the second one can be, as bits. */
        private final int[] pairs = new int[MOST_COURTS];
        private final int[] nextPairs = new int[MOST_COURTS];
        /** By the first two ones' courts: those in which the third one can be, as bits. */
        private final int[] triples = new int[MOST_COURTS * MOST_COURTS];
        private final int[] fresh = new int[MOST_COURTS * MOST_COURTS];
        private final int[] nextTriples = new int[MOST_COURTS * MOST_COURTS];

        int firstOfTwo(Walk walk, int one, int other, int hour, int to) {
            Arrays.fill(pairs, 0);
            pairs[one] = 1 << other;
            for (int h = hour; h < walk.town.hours; h++) {
                if (has(pairs[to], to)) {
                    return h;
                }
                goInTwo(walk, h);
            }
            return has(pairs[to], to) ? walk.town.hours : NONE;
        }

        private void goInTwo(Walk walk, int hour) {
            int courts = walk.town.courts;
            System.arraycopy(pairs, 0, nextPairs, 0, MOST_COURTS);
            for (int one = 0; one < courts; one++) {
                for (int other = 0; other < courts; other++) {
                    if (has(pairs[one], other)) {
                        addPairs(goOrStay(walk, one, hour, walk.town.shows[other]),
                            goOrStay(walk, other, hour, walk.town.shows[one]));
                    }
                }
            }
            System.arraycopy(nextPairs, 0, pairs, 0, MOST_COURTS);
        }

        private static int goOrStay(Walk walk, int court, int hour, int shown) {
            return walk.passages(court, hour, shown) | 1 << court;
        }

        private void addPairs(int ones, int others) {
            for (int court = 0; court < MOST_COURTS; court++) {
                if (has(ones, court)) {
                    nextPairs[court] |= others;
                }
            }
        }

        void startThree(int one, int other, int third) {
            Arrays.fill(triples, 0);
            triples[one * MOST_COURTS + other] = 1 << third;
        }

        int firstOfThree(Walk walk, int hour, int to) {
            int goal = to * MOST_COURTS + to;
            for (int h = hour; h < walk.town.hours; h++) {
                if (has(triples[goal], to)) {
                    return h;
                }
                // While the same courts are open, only those who came last find something new.
                if (h == hour || walk.open[h] != walk.open[h - 1]) {
                    System.arraycopy(triples, 0, fresh, 0, MOST_COURTS * MOST_COURTS);
                }
                goInThree(walk, h);
            }
            return has(triples[goal], to) ? walk.town.hours : NONE;
        }

        private void goInThree(Walk walk, int hour) {
            int courts = walk.town.courts;
            System.arraycopy(triples, 0, nextTriples, 0, MOST_COURTS * MOST_COURTS);
            for (int one = 0; one < courts; one++) {
                for (int other = 0; other < courts; other++) {
                    for (int third = 0; third < courts; third++) {
                        if (has(fresh[one * MOST_COURTS + other], third)) {
                            goFrom(walk, hour, one, other, third);
                        }
                    }
                }
            }
            for (int i = 0; i < MOST_COURTS * MOST_COURTS; i++) {
                fresh[i] = nextTriples[i] & ~triples[i];
                triples[i] = nextTriples[i];
            }
        }

        private void goFrom(Walk walk, int hour, int one, int other, int third) {
            int[] shows = walk.town.shows;
            int ones = goOrStay(walk, one, hour, shows[other] | shows[third]);
            int others = goOrStay(walk, other, hour, shows[one] | shows[third]);
            int thirds = goOrStay(walk, third, hour, shows[one] | shows[other]);
            for (int court = 0; court < walk.town.courts; court++) {
                if (has(ones, court)) {
                    addTriples(court * MOST_COURTS, others, thirds);
                }
            }
        }

        private void addTriples(int base, int others, int thirds) {
            for (int court = 0; court < MOST_COURTS; court++) {
                if (has(others, court)) {
                    nextTriples[base + court] |= thirds;
                }
            }
        }
    }

    /** The odds by court, hour and what one has learnt of those of whom it isn't known yet. */
    static final class Chances {
        private static final int MOST_STATES = 81;
        private static final int[] POWERS = {1, 3, 9, 27};

        private Town town = new Town();
        private int names;
        private int gone;
        private int goal;
        private int lastHour;
        /** Those of whom it isn't known and whom one can name: a state has a digit 0 .. 2 of each. */
        private final int[] unsure = new int[MOST_STRAYERS];
        private final int[] seats = new int[MOST_PEOPLE];
        private int unsureCount;
        private int states;
        private final int[] worth = new int[MOST_HOURS * MOST_COURTS * MOST_STATES];
        /** At the hour looked at: courts open by those who are known, and by each of the others. */
        private int certain;
        private final int[] ifTold = new int[MOST_STRAYERS];
        private final int[] ifGone = new int[MOST_STRAYERS];
        /** In the state looked at: its digits, courts that are surely open, and that may be. */
        private final int[] digits = new int[MOST_STRAYERS];
        private int open;
        private int doubtful;
        private int outcomes;

        void know(Town place, int nameSet, int known, int goneSet) {
            town = place;
            names = nameSet;
            gone = goneSet;
            unsureCount = 0;
            states = 1;
            for (int person = 0; person < MOST_PEOPLE; person++) {
                seats[person] = NONE;
                if (has(place.strayers & nameSet & ~known, person) && unsureCount < MOST_STRAYERS) {
                    seats[person] = unsureCount;
                    unsure[unsureCount] = person;
                    unsureCount++;
                    states *= 3;
                }
            }
        }

        void solve(int hour, int to, int by) {
            goal = to;
            lastHour = by;
            for (int h = by - 1; h >= hour; h--) {
                lookAtHour(h);
                for (int state = 0; state < states; state++) {
                    lookAtState(state);
                    for (int court = 0; court < town.courts; court++) {
                        worth[(h * MOST_COURTS + court) * MOST_STATES + state] = mostWorth(court, h, state);
                    }
                }
            }
        }

        int worthAt(int court, int hour, int state) {
            if (court == goal) {
                return ALL;
            }
            return hour >= lastHour ? 0 : worth[(hour * MOST_COURTS + court) * MOST_STATES + state];
        }

        private void lookAtHour(int hour) {
            int sureNames = names;
            for (int i = 0; i < unsureCount; i++) {
                int person = unsure[i];
                sureNames &= ~(1 << person);
                ifTold[i] = town.showsOf(person, hour, 0);
                ifGone[i] = town.showsOf(person, hour, 1 << person);
            }
            certain = town.openBy(sureNames, hour, gone);
        }

        private void lookAtState(int state) {
            int rest = state;
            open = certain;
            doubtful = 0;
            for (int i = 0; i < unsureCount; i++) {
                digits[i] = rest % 3;
                rest /= 3;
                open |= shownSurely(i);
                if (digits[i] == 0) {
                    doubtful |= ifTold[i] ^ ifGone[i];
                }
            }
        }

        private int shownSurely(int i) {
            if (digits[i] == 0) {
                return ifTold[i] & ifGone[i];
            }
            return digits[i] == 1 ? ifTold[i] : ifGone[i];
        }

        private boolean isDoubtful(int i, int to) {
            return digits[i] == 0 && has(ifTold[i] ^ ifGone[i], to);
        }

        private int mostWorth(int court, int hour, int state) {
            if (court == goal) {
                return ALL;
            }
            int most = worthAt(court, hour + 1, state);
            for (int i = 0; i < town.degrees[court]; i++) {
                int to = town.neighbours[court * MOST_COURTS + i];
                if (has(town.above[court] | open, to)) {
                    most = Math.max(most, worthAt(to, hour + 1, state));
                }
                if (has(doubtful & ~town.above[court], to)) {
                    most = Math.max(most, mostOfTries(court, to, hour, state));
                }
            }
            return most;
        }

        private int mostOfTries(int court, int to, int hour, int state) {
            int most = 0;
            for (int i = 0; i < unsureCount; i++) {
                if (isDoubtful(i, to)) {
                    most = Math.max(most, worthOfTry(i, court, to, hour, state));
                }
            }
            return most;
        }

        private int worthOfTry(int i, int court, int to, int hour, int state) {
            boolean opensIfTold = has(ifTold[i], to);
            int part = town.strayParts[unsure[i]];
            long yesPart = opensIfTold ? HUNDRED - part : part;
            int yesState = state + POWERS[i] * (opensIfTold ? 1 : 2);
            int noState = state + POWERS[i] * (opensIfTold ? 2 : 1);
            long yes = yesPart * worthAt(to, hour + 1, yesState);
            long no = (HUNDRED - yesPart) * worthAt(court, afterNo(hour), noState);
            return (int) ((yes + no) / HUNDRED);
        }

        private int afterNo(int hour) {
            return Math.min(hour + 1 + town.falseHours, town.hours);
        }

        /** What is best in a court at an hour: NONE to stay, else 100 times the gate and the name. */
        int choose(int court, int hour, int state) {
            lookAtHour(hour);
            lookAtState(state);
            int most = worthAt(court, hour + 1, state);
            int chosen = NONE;
            for (int gate = 0; gate < town.gateCount; gate++) {
                int to = town.beyond(gate, court);
                int name = to == NONE ? NONE : bestName(court, to, hour, state);
                int value = name == NONE ? NONE : worthOfName(name, court, to, hour, state);
                if (value > most) {
                    most = value;
                    chosen = gate * HUNDRED + name;
                }
            }
            return chosen;
        }

        private int bestName(int court, int to, int hour, int state) {
            if (town.isFree(court, to)) {
                return NO_NAME;
            }
            int most = NONE;
            int chosen = NONE;
            for (int name = 0; name < town.people; name++) {
                int value = has(names, name) ? worthOfName(name, court, to, hour, state) : NONE;
                if (value > most) {
                    most = value;
                    chosen = name;
                }
            }
            return chosen;
        }

        /** NONE, if the name surely does not open. */
        private int worthOfName(int name, int court, int to, int hour, int state) {
            if (name == NO_NAME) {
                return worthAt(to, hour + 1, state);
            }
            int i = seats[name];
            if (i != NONE && isDoubtful(i, to)) {
                return worthOfTry(i, court, to, hour, state);
            }
            int shown = i == NONE ? town.showsOf(name, hour, gone) : shownSurely(i);
            return has(shown, to) ? worthAt(to, hour + 1, state) : NONE;
        }

        long gainByTelling(int person, int from, int hour) {
            int i = seats[person];
            if (i == NONE) {
                return 0;
            }
            int part = town.strayParts[person];
            long told = (long) (HUNDRED - part) * worthAt(from, hour, POWERS[i]);
            long strayedThen = (long) part * worthAt(from, hour, 2 * POWERS[i]);
            return (told + strayedThen) / HUNDRED - worthAt(from, hour, 0);
        }

        /** Days are alike on which the same ones of the unsure have strayed: each is lived once. */
        void liveAllDays(int from) {
            outcomes = 0;
            for (int mix = 0; mix < 1 << unsureCount; mix++) {
                int drawn = 0;
                for (int i = 0; i < unsureCount; i++) {
                    if (has(mix, i)) {
                        drawn |= 1 << unsure[i];
                    }
                }
                if (comes(from, drawn)) {
                    outcomes |= 1 << mix;
                }
            }
        }

        boolean comesOn(int drawn) {
            int mix = 0;
            for (int i = 0; i < unsureCount; i++) {
                if (has(drawn, unsure[i])) {
                    mix |= 1 << i;
                }
            }
            return has(outcomes, mix);
        }

        private boolean comes(int from, int drawn) {
            int court = from;
            int hour = 0;
            int state = 0;
            for (int turn = 0; turn < MOST_HOURS && court != goal && hour < lastHour; turn++) {
                int chosen = choose(court, hour, state);
                if (chosen == NONE) {
                    hour++;
                } else {
                    int name = chosen % HUNDRED;
                    int to = town.beyond(chosen / HUNDRED, court);
                    boolean yes = name == NO_NAME || has(town.showsOf(name, hour, drawn), to);
                    state = learn(name, to, state, drawn);
                    court = yes ? to : court;
                    hour = yes ? hour + 1 : afterNo(hour);
                }
            }
            return court == goal;
        }

        private int learn(int name, int to, int state, int drawn) {
            int i = name == NO_NAME ? NONE : seats[name];
            if (i == NONE || !isDoubtful(i, to)) {
                return state;
            }
            return state + POWERS[i] * (has(drawn, name) ? 2 : 1);
        }
    }

    /** One's day by a row of tries, as all really are. */
    static final class Day {
        int place;
        int court;
        int hour;
        int refusals;

        void live(Image now, Row row) {
            place = 0;
            court = 0;
            hour = 0;
            refusals = 0;
            for (int i = 0; i < row.size && isDone(now, row.numbers[i]); i++) {
                place++;
            }
        }

        private boolean isDone(Image now, long number) {
            Town town = now.town;
            if (hour >= town.hours || number < NONE || number >= (long) town.gateCount * HUNDRED) {
                return false;
            }
            if (number == NONE) {
                hour++;
                return true;
            }
            int name = (int) number % HUNDRED;
            int to = town.beyond((int) number / HUNDRED, court);
            if (to == NONE) {
                return false;
            }
            if (town.isFree(court, to)) {
                if (name == NO_NAME) {
                    pass(to);
                }
                return name == NO_NAME;
            }
            if (!town.hasPerson(name) || !has(now.names, name)) {
                return false;
            }
            if (has(town.showsOf(name, hour, now.strayed), to)) {
                pass(to);
            } else {
                refusals++;
                hour = Math.min(hour + 1 + town.falseHours, town.hours);
            }
            return true;
        }

        private void pass(int to) {
            court = to;
            hour++;
        }
    }
}
