import java.util.ArrayList;
import java.util.HashMap;
import java.util.HashSet;
import java.util.List;
import java.util.Map;
import java.util.Random;
import java.util.Set;

/** The document's terms written down as plainly as can be, however slow; tests hold NameGate against it. */
final class Naive {
    static final int NONE = -1;
    static final long ALL = 1_000_000_000L;

    int hours;
    int[] parent;
    int[][] gates;
    int[][] told;
    int[] strayPart;
    int[] strayCourt;
    boolean deep = true;
    int falseHours;

    int strayed;
    int names;
    int known;
    int gone;

    // ---- a town at random, and its text ----

    static Naive random(Random dice, int mostHours, int mostCourts, int mostGates, int mostPeople) {
        Naive town = new Naive();
        town.hours = 1 + dice.nextInt(mostHours);
        town.parent = new int[1 + dice.nextInt(mostCourts)];
        town.parent[0] = NONE;
        for (int c = 1; c < town.parent.length; c++) {
            town.parent[c] = dice.nextInt(c);
        }
        town.gates = new int[town.parent.length < 2 ? 0 : dice.nextInt(mostGates + 1)][2];
        for (int[] gate : town.gates) {
            gate[0] = dice.nextInt(town.parent.length);
            gate[1] = (gate[0] + 1 + dice.nextInt(town.parent.length - 1)) % town.parent.length;
        }
        int people = dice.nextInt(mostPeople + 1);
        town.told = new int[people][town.hours];
        town.strayPart = new int[people];
        town.strayCourt = new int[people];
        int strayers = 0;
        for (int p = 0; p < people; p++) {
            int court = dice.nextInt(town.parent.length);
            for (int h = 0; h < town.hours; h++) {
                if (dice.nextInt(4) == 0) {
                    court = dice.nextInt(town.parent.length);
                }
                town.told[p][h] = court;
            }
            if (strayers < 4 && dice.nextInt(2) == 0) {
                strayers++;
                town.strayPart[p] = 1 + dice.nextInt(99);
                town.strayCourt[p] = dice.nextInt(town.parent.length);
            }
        }
        town.deep = dice.nextBoolean();
        town.falseHours = dice.nextInt(3) == 0 ? dice.nextInt(10) : dice.nextInt(2);
        return town;
    }

    List<String> lines(Random dice) {
        List<String> lines = new ArrayList<>();
        lines.add("town hours " + hours);
        for (int c = 1; c < parent.length; c++) {
            lines.add("court in " + parent[c]);
        }
        for (int[] gate : gates) {
            lines.add("gate " + gate[0] + " to " + gate[1]);
        }
        for (int p = 0; p < told.length; p++) {
            StringBuilder line = new StringBuilder("person at " + told[p][0]);
            for (int h = 1; h < hours; h++) {
                if (told[p][h] != told[p][h - 1]) {
                    line.append(" from ").append(h).append(" at ").append(told[p][h]);
                }
            }
            if (strayPart[p] > 0) {
                line.append(" strays ").append(strayPart[p]).append(" to ").append(strayCourt[p]);
            }
            lines.add(line.toString());
        }
        if (!deep || dice.nextBoolean()) {
            lines.add("law " + (deep ? "deep" : "here"));
        }
        if (falseHours != 0 || dice.nextBoolean()) {
            lines.add("false " + falseHours);
        }
        return lines;
    }

    Naive copy() {
        Naive other = new Naive();
        other.hours = hours;
        other.parent = parent.clone();
        other.gates = new int[gates.length][];
        for (int g = 0; g < gates.length; g++) {
            other.gates[g] = gates[g].clone();
        }
        other.told = new int[told.length][];
        for (int p = 0; p < told.length; p++) {
            other.told[p] = told[p].clone();
        }
        other.strayPart = strayPart.clone();
        other.strayCourt = strayCourt.clone();
        other.deep = deep;
        other.falseHours = falseHours;
        other.strayed = strayed;
        other.names = names;
        other.known = known;
        other.gone = gone;
        return other;
    }

    // ---- II ----

    static boolean has(int set, int member) {
        return (set & 1 << member) != 0;
    }

    int people() {
        return told.length;
    }

    int courts() {
        return parent.length;
    }

    int strayers() {
        int set = 0;
        for (int p = 0; p < people(); p++) {
            if (strayPart[p] > 0) {
                set |= 1 << p;
            }
        }
        return set;
    }

    boolean liesIn(int court, int in) {
        for (int c = parent[court]; c != NONE; c = parent[c]) {
            if (c == in) {
                return true;
            }
        }
        return false;
    }

    int depth(int court) {
        return court == 0 ? 0 : 1 + depth(parent[court]);
    }

    boolean countsIn(int place, int court) {
        return place == court || deep && liesIn(place, court);
    }

    int where(int p, int h) {
        return has(strayed, p) ? strayCourt[p] : told[p][h];
    }

    boolean isWithin(int p, int court, int h) {
        return countsIn(where(p, h), court);
    }

    int within(int court, int h) {
        int set = 0;
        for (int p = 0; p < people(); p++) {
            if (isWithin(p, court, h)) {
                set |= 1 << p;
            }
        }
        return set;
    }

    int leads(int g, int from) {
        if (gates[g][0] == from) {
            return gates[g][1];
        }
        return gates[g][1] == from ? gates[g][0] : NONE;
    }

    int opens(int g, int from, int h, int name) {
        int to = leads(g, from);
        if (to == NONE) {
            return NONE;
        }
        if (liesIn(from, to)) {
            return 2;
        }
        return has(names, name) && isWithin(name, to, h) ? 1 : 0;
    }

    int keys(int g, int from, int h) {
        int to = leads(g, from);
        if (to == NONE) {
            return NONE;
        }
        return liesIn(from, to) ? 0 : names & within(to, h);
    }

    boolean passes(int g, int from, int h) {
        int to = leads(g, from);
        return to != NONE && (liesIn(from, to) || keys(g, from, h) != 0);
    }

    // ---- III ----

    /** can[h][c]: one can be in a court at an hour. */
    boolean[][] spread(int from, int hour) {
        boolean[][] can = new boolean[hours + 1][courts()];
        can[hour][from] = true;
        for (int h = hour; h < hours; h++) {
            for (int c = 0; c < courts(); c++) {
                if (can[h][c]) {
                    can[h + 1][c] = true;
                    for (int g = 0; g < gates.length; g++) {
                        if (passes(g, c, h)) {
                            can[h + 1][leads(g, c)] = true;
                        }
                    }
                }
            }
        }
        return can;
    }

    int soonest(int from, int hour, int to) {
        boolean[][] can = spread(from, hour);
        for (int h = hour; h <= hours; h++) {
            if (can[h][to]) {
                return h;
            }
        }
        return NONE;
    }

    /** The fewest gates to be in a court at the very hour; 1000: never. */
    private int fewestGates(int c, int h, int to, int then, Map<Integer, Integer> known) {
        if (h == then) {
            return c == to ? 0 : 1000;
        }
        Integer before = known.get(h * 10 + c);
        if (before != null) {
            return before;
        }
        int least = fewestGates(c, h + 1, to, then, known);
        for (int g = 0; g < gates.length; g++) {
            if (passes(g, c, h)) {
                least = Math.min(least, 1 + fewestGates(leads(g, c), h + 1, to, then, known));
            }
        }
        known.put(h * 10 + c, least);
        return least;
    }

    int fewestGates(int from, int hour, int to) {
        int soon = soonest(from, hour, to);
        return soon == NONE ? NONE : fewestGates(from, hour, to, soon, new HashMap<>());
    }

    /** The first gate, its name, its hour; null without. */
    int[] way(int from, int hour, int to) {
        int soon = soonest(from, hour, to);
        if (soon == NONE || from == to) {
            return null;
        }
        Map<Integer, Integer> known = new HashMap<>();
        int least = fewestGates(from, hour, to, soon, known);
        for (int h = soon - 1; h >= hour; h--) {
            for (int g = 0; g < gates.length; g++) {
                if (passes(g, from, h) && 1 + fewestGates(leads(g, from), h + 1, to, soon, known) == least) {
                    int name = 99;
                    for (int p = people() - 1; p >= 0; p--) {
                        if (opens(g, from, h, p) == 1) {
                            name = p;
                        }
                    }
                    return new int[] {g, name, h};
                }
            }
        }
        throw new IllegalStateException("a way must have a first gate");
    }

    int reach(int from, int hour) {
        boolean[][] can = spread(from, hour);
        int set = 0;
        for (int c = 0; c < courts(); c++) {
            if (can[hours][c]) {
                set |= 1 << c;
            }
        }
        return set;
    }

    int latest(int from, int to) {
        for (int h = hours - 1; h >= 0; h--) {
            if (soonest(from, h, to) != NONE) {
                return h;
            }
        }
        return NONE;
    }

    int need(int name, int from, int hour, int to) {
        int with = soonest(from, hour, to);
        Naive other = copy();
        other.names &= ~(1 << name);
        int without = other.soonest(from, hour, to);
        if (with == NONE) {
            return NONE;
        }
        return without == NONE ? -3 : without - with;
    }

    private static boolean isLess(int set, int than) {
        return than == NONE || Integer.bitCount(set) < Integer.bitCount(than);
    }

    int fewestSet(int from, int hour, int to, int by) {
        Naive other = copy();
        int least = NONE;
        for (int set = 0; set < 1 << people(); set++) {
            other.names = set;
            if (isLess(set, least)) {
                int soon = other.soonest(from, hour, to);
                if (soon != NONE && soon <= by) {
                    least = set;
                }
            }
        }
        return least;
    }

    int everySet() {
        Naive other = copy();
        int least = NONE;
        for (int set = 0; set < 1 << people(); set++) {
            other.names = set;
            if (isLess(set, least) && other.reach(0, 0) == (1 << courts()) - 1) {
                least = set;
            }
        }
        return least;
    }

    long ways(int from, int hour, int to, int then) {
        long[] number = new long[courts()];
        number[to] = 1;
        for (int h = then - 1; h >= hour; h--) {
            long[] before = new long[courts()];
            for (int c = 0; c < courts(); c++) {
                before[c] = number[c];
                for (int g = 0; g < gates.length; g++) {
                    if (passes(g, c, h)) {
                        before[c] += number[leads(g, c)];
                    }
                }
                before[c] %= 1_000_000_007L;
            }
            number = before;
        }
        return number[from];
    }

    int outSet(int from, int hour, int to) {
        int least = NONE;
        for (int set = 0; set < 1 << people(); set++) {
            if (isLess(set, least)) {
                Naive other = copy();
                for (int p = 0; p < people(); p++) {
                    if (has(set, p)) {
                        other.placeAllDay(p, 0);
                    }
                }
                if (other.soonest(from, hour, to) == NONE) {
                    least = set;
                }
            }
        }
        return least;
    }

    void placeAllDay(int p, int court) {
        java.util.Arrays.fill(told[p], court);
        strayed &= ~(1 << p);
    }

    int alone(int from, int hour, int to, int follower) {
        Naive after = copy();
        after.names = follower;
        Set<Integer> now = new HashSet<>();
        now.add(from * 2);
        for (int h = hour; h <= hours; h++) {
            if (now.contains(to * 2 + 1)) {
                return h;
            }
            if (h == hours) {
                break;
            }
            Set<Integer> next = new HashSet<>(now);
            for (int state : now) {
                for (int g = 0; g < gates.length; g++) {
                    if (passes(g, state / 2, h)) {
                        boolean shaken = state % 2 == 1 || !after.passes(g, state / 2, h);
                        next.add(leads(g, state / 2) * 2 + (shaken ? 1 : 0));
                    }
                }
            }
            now = next;
        }
        return NONE;
    }

    // ---- V ----

    private List<Integer> steps(int c, int h, int[] companions) {
        List<Integer> to = new ArrayList<>();
        to.add(c);
        for (int g = 0; g < gates.length; g++) {
            int v = leads(g, c);
            boolean named = false;
            for (int companion : companions) {
                named |= v != NONE && countsIn(companion, v);
            }
            if (v != NONE && (named || passes(g, c, h))) {
                to.add(v);
            }
        }
        return to;
    }

    int both(int one, int other, int hour, int to, boolean naming) {
        Set<Integer> now = new HashSet<>();
        now.add(one * 10 + other);
        for (int h = hour; h <= hours; h++) {
            if (now.contains(to * 11)) {
                return h;
            }
            if (h == hours) {
                break;
            }
            Set<Integer> next = new HashSet<>();
            for (int state : now) {
                int a = state / 10;
                int b = state % 10;
                for (int x : steps(a, h, naming ? new int[] {b} : new int[0])) {
                    for (int y : steps(b, h, naming ? new int[] {a} : new int[0])) {
                        next.add(x * 10 + y);
                    }
                }
            }
            now = next;
        }
        return NONE;
    }

    int three(int one, int other, int third, int hour, int to) {
        Set<Integer> now = new HashSet<>();
        now.add(one * 100 + other * 10 + third);
        for (int h = hour; h <= hours; h++) {
            if (now.contains(to * 111)) {
                return h;
            }
            if (h == hours) {
                break;
            }
            Set<Integer> next = new HashSet<>();
            for (int state : now) {
                int a = state / 100;
                int b = state / 10 % 10;
                int c = state % 10;
                for (int x : steps(a, h, new int[] {b, c})) {
                    for (int y : steps(b, h, new int[] {a, c})) {
                        for (int z : steps(c, h, new int[] {a, b})) {
                            next.add(x * 100 + y * 10 + z);
                        }
                    }
                }
            }
            now = next;
        }
        return NONE;
    }

    /** The name and the hours sooner (-3: never now); null without. */
    int[] teach(int from, int hour, int to) {
        int before = soonest(from, hour, to);
        int[] best = null;
        int least = before == NONE ? 1000 : before;
        for (int p = 0; p < people(); p++) {
            if (!has(names, p)) {
                Naive other = copy();
                other.names |= 1 << p;
                int soon = other.soonest(from, hour, to);
                if (soon != NONE && soon < least) {
                    least = soon;
                    best = new int[] {p, before == NONE ? -3 : before - soon};
                }
            }
        }
        return best;
    }

    int[] host(int person, int from, int hour, int to) {
        int[] best = null;
        for (int c = 0; c < courts(); c++) {
            Naive other = copy();
            other.placeAllDay(person, c);
            int soon = other.soonest(from, hour, to);
            if (soon != NONE && (best == null || soon < best[1])) {
                best = new int[] {c, soon};
            }
        }
        return best;
    }

    int vital(int from, int hour, int to) {
        if (soonest(from, hour, to) == NONE) {
            return NONE;
        }
        int set = 0;
        for (int g = 0; g < gates.length; g++) {
            Naive other = copy();
            other.gates = new int[gates.length - 1][];
            for (int i = 0, j = 0; i < gates.length; i++) {
                if (i != g) {
                    other.gates[j++] = gates[i];
                }
            }
            if (other.soonest(from, hour, to) == NONE) {
                set |= 1 << g;
            }
        }
        return set;
    }

    int empty(int court) {
        for (int first = 0; first < hours; first++) {
            boolean all = true;
            for (int h = first; h < hours; h++) {
                all &= within(court, h) == 0;
            }
            if (all) {
                return first;
            }
        }
        return hours;
    }

    int hollow(int court) {
        int number = 0;
        for (int h = 0; h < hours; h++) {
            number += within(court, h) == 0 ? 1 : 0;
        }
        return number;
    }

    int keeper(int court) {
        int best = NONE;
        int most = 0;
        for (int p = 0; p < people(); p++) {
            int number = 0;
            for (int h = 0; h < hours; h++) {
                number += within(court, h) == 1 << p ? 1 : 0;
            }
            if (number > most) {
                most = number;
                best = p;
            }
        }
        return best;
    }

    // ---- IV ----

    boolean toldWithin(int p, int court, int h) {
        return countsIn(told[p][h], court);
    }

    boolean goneWithin(int p, int court) {
        return countsIn(strayCourt[p], court);
    }

    boolean isUnsure(int p, int knownSet) {
        return strayPart[p] > 0 && !has(knownSet, p);
    }

    int hear(int p, int court, int h, boolean is) {
        boolean canTold = toldWithin(p, court, h) == is && !(has(known, p) && has(gone, p));
        boolean canGone = strayPart[p] > 0 && goneWithin(p, court) == is && !(has(known, p) && !has(gone, p));
        if (!canTold && !canGone) {
            return -5;
        }
        if (canTold && canGone) {
            return 0;
        }
        if (strayPart[p] > 0) {
            known |= 1 << p;
            gone = canGone ? gone | 1 << p : gone & ~(1 << p);
        }
        return 1;
    }

    int think(int p, int court, int h) {
        return think(p, court, h, known, gone);
    }

    private int think(int p, int court, int h, int knownSet, int goneSet) {
        if (!isUnsure(p, knownSet)) {
            boolean in = has(goneSet, p) ? goneWithin(p, court) : toldWithin(p, court, h);
            return in ? 100 : 0;
        }
        return (goneWithin(p, court) ? strayPart[p] : 0) + (toldWithin(p, court, h) ? 100 - strayPart[p] : 0);
    }

    int[] likely(int g, int from, int h) {
        int to = leads(g, from);
        if (to == NONE || liesIn(from, to)) {
            return null;
        }
        int[] best = null;
        for (int p = 0; p < people(); p++) {
            if (has(names, p) && (best == null || think(p, to, h) > best[1])) {
                best = new int[] {p, think(p, to, h)};
            }
        }
        return best;
    }

    /** One question about odds: all that stays the same while it is answered. */
    final class Quest {
        final int to;
        final int by;
        final boolean daring;
        final Map<Long, Long> found = new HashMap<>();

        Quest(int to, int by, boolean daring) {
            this.to = to;
            this.by = by;
            this.daring = daring;
        }

        long odds(int c, int h, int knownSet, int goneSet) {
            if (c == to) {
                return ALL;
            }
            if (h >= by || h >= hours) {
                return 0;
            }
            long key = ((c * 64L + h) * 1024 + knownSet) * 1024 + goneSet;
            Long before = found.get(key);
            if (before != null) {
                return before;
            }
            long most = bestOf(c, h, knownSet, goneSet)[0];
            found.put(key, most);
            return most;
        }

        /** The greatest odds, and the try. */
        long[] bestOf(int c, int h, int knownSet, int goneSet) {
            long most = odds(c, h + 1, knownSet, goneSet);
            long chosen = NONE;
            for (int g = 0; g < gates.length; g++) {
                int v = leads(g, c);
                if (v == NONE) {
                    continue;
                }
                for (int name = 0; name < 100; name++) {
                    long value = tryOf(c, h, v, name, knownSet, goneSet);
                    if (value > most) {
                        most = value;
                        chosen = g * 100 + name;
                    }
                }
            }
            return new long[] {most, chosen};
        }

        private long tryOf(int c, int h, int v, int name, int knownSet, int goneSet) {
            if (liesIn(c, v)) {
                return name == 99 ? odds(v, h + 1, knownSet, goneSet) : -1;
            }
            if (name >= people() || !has(names, name)) {
                return -1;
            }
            int yes = think(name, v, h, knownSet, goneSet);
            if (yes == 0 || !daring && yes < 100) {
                return -1;
            }
            if (yes == 100) {
                return odds(v, h + 1, knownSet, goneSet);
            }
            int bit = 1 << name;
            boolean yesIfGone = goneWithin(name, v);
            int later = Math.min(hours, h + 1 + falseHours);
            long ifYes = odds(v, h + 1, knownSet | bit, yesIfGone ? goneSet | bit : goneSet);
            long ifNo = odds(c, later, knownSet | bit, yesIfGone ? goneSet : goneSet | bit);
            return (yes * ifYes + (100 - yes) * ifNo) / 100;
        }
    }

    long odds(int from, int hour, int to, int by) {
        return new Quest(to, by, true).odds(from, hour, known, gone);
    }

    long sure(int from, int hour, int to, int by) {
        return new Quest(to, by, false).odds(from, hour, known, gone);
    }

    long best(int from, int hour, int to, int by) {
        if (from == to || hour == by) {
            return -3;
        }
        return new Quest(to, by, true).bestOf(from, hour, known, gone)[1];
    }

    long list(int from, int hour, int to, int by) {
        long sum = 0;
        int unsure = strayers() & ~known;
        for (int set = 0; set < 1 << people(); set++) {
            if ((set & ~unsure) != 0) {
                continue;
            }
            long chance = ALL;
            for (int p = 0; p < people(); p++) {
                if (has(unsure, p)) {
                    chance = chance * (has(set, p) ? strayPart[p] : 100 - strayPart[p]) / 100;
                }
            }
            Naive other = copy();
            other.strayed = gone | set;
            int soon = other.soonest(from, hour, to);
            if (soon != NONE && soon <= by) {
                sum += chance;
            }
        }
        return sum;
    }

    long tell(int p, int from, int hour, int to, int by) {
        if (!isUnsure(p, known)) {
            return 0;
        }
        int bit = 1 << p;
        Quest quest = new Quest(to, by, true);
        long not = quest.odds(from, hour, known | bit, gone);
        long has = quest.odds(from, hour, known | bit, gone | bit);
        return ((100 - strayPart[p]) * not + strayPart[p] * has) / 100 - quest.odds(from, hour, known, gone);
    }

    int tells(int from, int hour, int to, int by) {
        int best = NONE;
        long most = 0;
        for (int p = 0; p < people(); p++) {
            long gain = tell(p, from, hour, to, by);
            if (gain > most) {
                most = gain;
                best = p;
            }
        }
        return best;
    }

    int until(int from, int hour, int to, int hundredths) {
        for (int by = hour; by <= hours; by++) {
            if (odds(from, hour, to, by) >= hundredths * 10_000_000L) {
                return by;
            }
        }
        return NONE;
    }

    int begin(int from, int to, int a, int b) {
        int best = a;
        for (int h = a; h <= b; h++) {
            if (odds(from, h, to, hours) > odds(from, best, to, hours)) {
                best = h;
            }
        }
        return best;
    }

    // ---- days ----

    int draw(long seed) {
        java.math.BigInteger x = java.math.BigInteger.valueOf(seed);
        int set = 0;
        for (int p = 0; p < people(); p++) {
            if (strayPart[p] > 0) {
                x = x.multiply(java.math.BigInteger.valueOf(1103515245)).add(java.math.BigInteger.valueOf(12345))
                    .mod(java.math.BigInteger.valueOf(2147483648L));
                if (x.longValue() / 65536 % 100 < strayPart[p]) {
                    set |= 1 << p;
                }
            }
        }
        return set;
    }

    boolean comesOnDay(long seed, int from, int to, int by) {
        Naive truth = copy();
        truth.strayed = draw(seed);
        Quest quest = new Quest(to, by, true);
        int c = from;
        int h = 0;
        int knownSet = 0;
        int goneSet = 0;
        while (c != to && h < by) {
            int choice = (int) quest.bestOf(c, h, knownSet, goneSet)[1];
            if (choice == NONE) {
                h++;
                continue;
            }
            int v = leads(choice / 100, c);
            int name = choice % 100;
            boolean yes = name == 99 || truth.isWithin(name, v, h);
            if (name != 99 && isUnsure(name, knownSet) && toldWithin(name, v, h) != goneWithin(name, v)) {
                knownSet |= 1 << name;
                goneSet |= truth.strayed & 1 << name;
            }
            c = yes ? v : c;
            h = yes ? h + 1 : Math.min(hours, h + 1 + falseHours);
        }
        return c == to;
    }

    int days(int seed, int n, int from, int to, int by) {
        int number = 0;
        for (int i = 0; i < n; i++) {
            number += comesOnDay((long) seed + i, from, to, by) ? 1 : 0;
        }
        return number;
    }

    /** The place of the first try that can't be, the court, the hour, the number of noes. */
    int[] judge(long[] tries) {
        int c = 0;
        int h = 0;
        int noes = 0;
        for (int i = 0; i < tries.length; i++) {
            long g = tries[i] / 100;
            long name = tries[i] % 100;
            int[] ended = {i, c, h, noes};
            if (h >= hours) {
                return ended;
            }
            if (tries[i] == NONE) {
                h++;
                continue;
            }
            if (tries[i] < 0 || g >= gates.length || leads((int) g, c) == NONE) {
                return ended;
            }
            int v = leads((int) g, c);
            if (liesIn(c, v)) {
                if (name != 99) {
                    return ended;
                }
                c = v;
                h++;
                continue;
            }
            if (name >= people() || !has(names, (int) name)) {
                return ended;
            }
            if (isWithin((int) name, v, h)) {
                c = v;
                h++;
            } else {
                noes++;
                h = Math.min(hours, h + 1 + falseHours);
            }
        }
        return new int[] {tries.length, c, h, noes};
    }
}
