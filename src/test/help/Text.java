/** Texts of towns, loaded into new objects, and the faults that are due of them. */
final class Text {
    static final String HOURS = "town hours 5;";
    static final String COURT = "court in 0;";
    static final String GATE = "gate 0 to 1;";
    static final String PERSON = "person at 0;";
    static final String STRAYER = "person at 0 strays 1 to 0;";

    private Text() {
    }

    /** It is a town of so many lines. */
    static NameGate stands(String text) {
        NameGate gate = new NameGate();
        Check.due("town() of " + text, Check.load(gate, text), text.chars().filter(c -> c == ';').count());
        Check.due("fault(0) of " + text, gate.fault(0), 0);
        Check.due("fault(1) of " + text, gate.fault(1), NameGate.NONE);
        return gate;
    }

    static void fails(String text, int kind, int place) {
        NameGate gate = new NameGate();
        Check.due("town() of " + text, Check.load(gate, text), -4);
        Check.due("fault(0) of " + text, gate.fault(0), kind);
        Check.due("fault(1) of " + text, gate.fault(1), place);
        Check.due("no town by " + text, gate.count(0), 0);
    }

    /** The fault is at the first byte of what stands behind the bar. */
    static void failsAtBar(String text, int kind) {
        int bar = text.indexOf('|');
        fails(text.substring(0, bar) + text.substring(bar + 1), kind, bar);
    }

    /** As great as a town can be: 48 hours, 10 courts, 16 gates, 10 people, 4 of whom may stray. */
    static String greatest() {
        StringBuilder text = new StringBuilder("town hours 48;law deep;false 9;");
        for (int court = 1; court < 10; court++) {
            text.append("court in ").append(court - 1).append(';');
        }
        for (int gate = 0; gate < 16; gate++) {
            text.append("gate ").append(gate % 9).append(" to ").append(gate % 9 + 1).append(';');
        }
        for (int person = 0; person < 10; person++) {
            text.append("person at ").append(person).append(" from 47 at ").append(9 - person);
            text.append(person > 5 ? " strays 99 to 9;" : ";");
        }
        return text.toString();
    }
}
