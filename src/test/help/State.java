/** All of an object's state that can be seen by calls that change nothing (or put back what they change). */
final class State {
    private State() {
    }

    static String of(NameGate gate) {
        StringBuilder seen = new StringBuilder("counts");
        for (int what = 0; what <= 10; what++) {
            seen.append(' ').append(gate.count(what));
        }
        int names = gate.names(0);
        gate.names(names);
        int strayed = gate.strayed(0);
        gate.strayed(strayed);
        seen.append(", names ").append(names).append(", strayed ").append(strayed).append(", thought");
        for (int person = 0; person < gate.count(3); person++) {
            for (int court = 1; court < Math.min(4, gate.count(0)); court++) {
                seen.append(' ').append(gate.think(person, court, 0));
            }
        }
        seen.append(", days");
        for (int slot = 0; slot < 4; slot++) {
            seen.append(' ').append(gate.judge(slot)).append('/').append(gate.ends(slot, 0));
            seen.append('/').append(gate.ends(slot, 1)).append('/').append(gate.ends(slot, 2));
        }
        return seen.toString();
    }
}
