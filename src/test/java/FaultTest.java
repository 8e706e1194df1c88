import java.util.ArrayList;
import java.util.List;
import java.util.Random;
import java.util.regex.Matcher;
import java.util.regex.Pattern;

/** Texts at random, most of them spoilt somewhere: the fault of each is held against a table of Term I. */
public final class FaultTest {
    private static final String[] OTHERS = {"town", "hours", "court", "in", "gate", "to", "person", "at", "from",
        "strays", "law", "here", "deep", "false", ";", "0", "1", "2", "9", "10", "48", "49", "99", "100", "000", "007",
        "4294967296", "18446744073709551617", "a", "z", "courts", "A", "?", "\t", "\r", "\u0000", "\u00e9", "-1", ":"};

    private final Random dice;

    private FaultTest(Random dice) {
        this.dice = dice;
    }

    public static void main(String[] args) {
        int turns = args.length > 0 ? Integer.parseInt(args[0]) : 40000;
        FaultTest test = new FaultTest(new Random(6));
        int[] kinds = new int[4];
        for (int turn = 0; turn < turns && !Check.hasFailed(); turn++) {
            kinds[test.ask("turn " + turn)]++;
        }
        for (int kind = 0; kind < 4; kind++) {
            Check.due("texts of fault " + kind, kinds[kind] > turns / 100 ? 1 : 0, 1);
        }
        Check.finish();
    }

    private int ask(String turn) {
        String text = text();
        Grammar due = new Grammar(text);
        NameGate gate = new NameGate();
        Check.part(turn + ", " + text);
        Check.due("town()", Check.load(gate, text), due.kind == 0 ? due.lines : -4);
        Check.due("fault(0)", gate.fault(0), due.kind);
        Check.due("fault(1)", gate.fault(1), due.place);
        Check.due("hours", gate.count(1), due.kind == 0 ? due.hours : 0);
        Check.due("courts", gate.count(0), due.kind == 0 ? due.courts : 0);
        Check.due("gates", gate.count(2), due.kind == 0 ? due.gates : 0);
        Check.due("people", gate.count(3), due.kind == 0 ? due.people : 0);
        Check.due("strayers", Integer.bitCount(gate.count(6)), due.kind == 0 ? due.strayers : 0);
        return due.kind;
    }

    private String text() {
        Naive town = dice.nextInt(4) == 0 ? Naive.random(dice, 9, 10, 16, 10) : Naive.random(dice, 9, 5, 4, 4);
        List<String> lines = town.lines(dice);
        int more = dice.nextInt(3) == 0 ? dice.nextInt(9) : 0;
        for (int i = 0; i < more; i++) {
            lines.add(lines.get(dice.nextInt(lines.size())));
        }
        List<String> tokens = new ArrayList<>();
        Matcher matcher = Pattern.compile("[a-z]+|[0-9]+|;").matcher(String.join(";", lines) + ";");
        while (matcher.find()) {
            tokens.add(matcher.group());
        }
        int spoils = dice.nextInt(3);
        for (int i = 0; i < spoils && !tokens.isEmpty(); i++) {
            spoil(tokens);
        }
        String text = joined(tokens);
        return text.length() <= 1600 ? text : text.substring(0, 1600);
    }

    private void spoil(List<String> tokens) {
        int at = dice.nextInt(tokens.size());
        String other = OTHERS[dice.nextInt(OTHERS.length)];
        switch (dice.nextInt(6)) {
            case 0:
                tokens.remove(at);
                break;
            case 1:
                tokens.add(at, other);
                break;
            case 2:
                tokens.set(at, other);
                break;
            case 3:
                tokens.subList(at, tokens.size()).clear();
                break;
            default:
                spoilNumber(tokens, at);
                break;
        }
    }

    private void spoilNumber(List<String> tokens, int from) {
        for (int i = from; i < tokens.size(); i++) {
            if (Character.isDigit(tokens.get(i).charAt(0)) && tokens.get(i).length() < 4) {
                tokens.set(i, "" + Math.max(0, Integer.parseInt(tokens.get(i)) + dice.nextInt(5) - 2));
                return;
            }
        }
    }

    /** With blanks where they must be, and some where they need not. */
    private String joined(List<String> tokens) {
        StringBuilder text = new StringBuilder();
        for (String token : tokens) {
            boolean touches = text.length() > 0 && kindOf(text.charAt(text.length() - 1)) == kindOf(token.charAt(0));
            if (touches && dice.nextInt(200) > 0 || dice.nextInt(12) == 0) {
                text.append(dice.nextInt(3) == 0 ? "\n" : " ");
            }
            text.append(token);
        }
        return text + (dice.nextInt(4) == 0 ? " \n" : "");
    }

    private static int kindOf(char sign) {
        if (sign >= 'a' && sign <= 'z') {
            return 1;
        }
        return sign >= '0' && sign <= '9' ? 2 : sign;
    }
}
