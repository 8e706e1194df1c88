import java.util.ArrayList;
import java.util.HashMap;
import java.util.List;
import java.util.Map;
import java.util.regex.Matcher;
import java.util.regex.Pattern;

/** Term I as a table: which token may stand behind which, and what is said of its number. */
final class Grammar {
    /** "state token next": N is a number, = is what is said of it. */
    private static final String[] STEPS = {
        "begin town town", "town hours hours", "hours N=hours stop",
        "line court court", "court in in", "in N=around stop",
        "line gate gate", "gate N=one gateto", "gateto to gateother", "gateother N=other stop",
        "line person person", "person at at", "at N=court people",
        "people from from", "from N=from fromat", "fromat at at",
        "people strays strays", "strays N=part straysto", "straysto to straysin", "straysin N=court stop",
        "people ; line", "stop ; line",
        "line law law", "law here stop", "law deep stop",
        "line false false", "false N=nine stop",
    };
    private static final Pattern TOKEN = Pattern.compile("[a-z]+|[0-9]+|[^ \\n]", Pattern.DOTALL);

    int kind;
    int place = -1;
    int lines;
    int hours;
    int courts;
    int gates;
    int people;
    int strayers;

    private final Map<String, String> table = new HashMap<>();
    private final List<String> told = new ArrayList<>();
    private String one = "";
    private java.math.BigInteger ahead = java.math.BigInteger.ZERO;

    Grammar(String text) {
        for (String step : STEPS) {
            String[] parts = step.split(" ");
            String token = parts[1].startsWith("N=") ? "N" : parts[1];
            table.put(parts[0] + " " + token, parts[2] + " " + parts[1]);
        }
        read(text);
    }

    private void read(String text) {
        Matcher tokens = TOKEN.matcher(text);
        String state = "begin";
        while (kind == 0 && tokens.find()) {
            String token = tokens.group();
            boolean number = Character.isDigit(token.charAt(0));
            String step = table.get(state + " " + (number ? "N" : token));
            if (step == null) {
                blame(1, tokens.start());
            } else if (!isAsSaid(token, step.split(" ")[1])) {
                blame(2, tokens.start());
            } else if (isTooMany(state, token)) {
                blame(3, tokens.start());
            } else {
                state = step.split(" ")[0];
                lines += state.equals("line") ? 1 : 0;
            }
        }
        if (kind == 0 && !state.equals("line") && !state.equals("begin")) {
            blame(1, text.length());
        }
    }

    private void blame(int what, int where) {
        kind = what;
        place = where;
    }

    private boolean isTooMany(String state, String token) {
        if (!state.equals("line")) {
            return false;
        }
        courts += token.equals("court") ? 1 : 0;
        gates += token.equals("gate") ? 1 : 0;
        people += token.equals("person") ? 1 : 0;
        return courts > 10 || gates > 16 || people > 10;
    }

    private static boolean isFrom(java.math.BigInteger value, long low, long high) {
        return value.compareTo(java.math.BigInteger.valueOf(low)) >= 0
            && value.compareTo(java.math.BigInteger.valueOf(high)) <= 0;
    }

    private boolean isAsSaid(String token, String said) {
        if (said.equals("law") || said.equals("false") || said.equals("strays")) {
            told.add(said);
            long times = told.stream().filter(said::equals).count();
            strayers += said.equals("strays") ? 1 : 0;
            return times <= (said.equals("strays") ? 4 : 1);
        }
        if (said.equals("person")) {
            ahead = java.math.BigInteger.ZERO;
        }
        if (!said.startsWith("N=")) {
            return true;
        }
        java.math.BigInteger value = new java.math.BigInteger(token);
        boolean isCourt = isFrom(value, 0, courts - 1L);
        switch (said) {
            case "N=hours":
                hours = value.min(java.math.BigInteger.valueOf(999)).intValue();
                courts = 1;
                return isFrom(value, 1, 48);
            case "N=around":
                // The court that is being told is counted at its word already, and is not told ahead.
                return isFrom(value, 0, courts - 2L);
            case "N=court":
                return isCourt;
            case "N=one":
                one = value.toString();
                return isCourt;
            case "N=other":
                return isCourt && !value.toString().equals(one);
            case "N=from":
                boolean later = value.compareTo(ahead) > 0 && isFrom(value, 1, hours - 1L);
                ahead = value;
                return later;
            case "N=part":
                return isFrom(value, 1, 99);
            case "N=nine":
                return isFrom(value, 0, 9);
            default:
                throw new IllegalStateException(said);
        }
    }
}
