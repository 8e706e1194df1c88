/** What all tests share: texts fed to a tape, answers held against those that are due. */
final class Check {
    private static int wrong = 0;
    private static int asked = 0;
    private static String part = "";

    private Check() {
    }

    static void part(String name) {
        part = name;
    }

    static void due(String call, long got, long want) {
        asked++;
        if (got != want) {
            wrong++;
            System.out.println(part + ": " + call + " answered " + got + ", due is " + want);
        }
    }

    static void same(String call, String got, String want) {
        asked++;
        if (!got.equals(want)) {
            wrong++;
            System.out.println(part + ": " + call + " is " + got + ", due is " + want);
        }
    }

    static void finish() {
        System.out.println(asked + " answers, " + wrong + " not as due");
        if (wrong != 0 || asked == 0) {
            System.exit(1);
        }
    }

    static boolean hasFailed() {
        return wrong != 0;
    }

    /** Puts a text behind the tape, whatever stands there already. */
    static void feed(NameGate gate, String text) {
        int before = gate.count(5);
        for (int i = 0; i < text.length(); i += 20) {
            gate.feed(four(text, i), four(text, i + 4), four(text, i + 8), four(text, i + 12), four(text, i + 16));
        }
        gate.end(before + text.length());
    }

    private static int four(String text, int from) {
        int number = 0;
        for (int i = from; i < from + 4; i++) {
            number = number << 8 | (i < text.length() ? text.charAt(i) & 255 : '!');
        }
        return number;
    }

    static int load(NameGate gate, String text) {
        feed(gate, text);
        return gate.town();
    }

    static NameGate townOf(String text) {
        NameGate gate = new NameGate();
        due("town() of " + text, load(gate, text), text.chars().filter(sign -> sign == ';').count());
        return gate;
    }
}
