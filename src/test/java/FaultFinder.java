import java.util.ArrayDeque;
import java.util.Deque;

/** Finds a text's fault a second way: by what may come next, with a stack of brackets instead of a grammar. */
final class FaultFinder {
    private static final String NAMES = " speed spin tilt high stick wind ";
    private static final String KEYS = " lift turn slow or and not ";

    private final String text;
    private int at, place;
    private String token;

    /** Of each open bracket (and of the part itself): how many not and - are open in it, and whether it has compared. */
    private static final class Frame {
        int nots, minuses;
        boolean compared;
    }

    private FaultFinder(String text) {
        this.text = text;
    }

    /** The place of the fault; -1: none. */
    static int fault(String text) {
        FaultFinder f = new FaultFinder(text);
        for (String key : new String[] {"lift", "turn", "slow"}) {
            f.next();
            if (!f.token.equals(key)) return f.place;
            if (!f.passes()) return f.place;
        }
        f.next();
        return f.token.isEmpty() ? -1 : f.place;
    }

    private boolean passes() {
        Deque<Frame> frames = new ArrayDeque<>();
        frames.push(new Frame());
        boolean operand = true, notMay = true;
        while (true) {
            next();
            Frame now = frames.peek();
            int open = frames.size() - 1;
            for (Frame f : frames) open += f.nots + f.minuses;
            if (operand) {
                boolean opens = token.equals("-") || token.equals("(") || token.equals("not");
                if (opens && open >= 5) return false;
                if (token.equals("#") || !token.isEmpty() && NAMES.contains(" " + token + " ")) {
                    now.minuses = 0;
                    operand = false;
                } else if (token.equals("-")) {
                    now.minuses++;
                    notMay = false;
                } else if (token.equals("(")) {
                    frames.push(new Frame());
                    notMay = true;
                } else if (token.equals("not") && notMay) {
                    now.nots++;
                } else {
                    return false;
                }
                continue;
            }
            switch (token) {
                case "+": case "-": case "*":
                    operand = true;
                    notMay = false;
                    break;
                case "<": case "=":
                    if (now.compared) return false;
                    now.compared = true;
                    operand = true;
                    notMay = false;
                    break;
                case "and": case "or":
                    now.nots = 0;
                    now.compared = false;
                    operand = true;
                    notMay = true;
                    break;
                case ")":
                    if (frames.size() == 1) return false;
                    frames.pop();
                    frames.peek().minuses = 0;
                    break;
                case ";":
                    return frames.size() == 1;
                default:
                    return false;
            }
        }
    }

    /** The next token: "" at the end, "#" a number, "?" what is none. */
    private void next() {
        while (at < text.length() && (text.charAt(at) == 32 || text.charAt(at) == 10)) at++;
        place = at;
        if (at == text.length()) {
            token = "";
            return;
        }
        String rest = text.substring(at);
        String word = rest.replaceFirst("(?s)[^a-z].*", "");
        String digits = rest.replaceFirst("(?s)[^0-9].*", "");
        if (!word.isEmpty()) {
            token = (NAMES + KEYS).contains(" " + word + " ") ? word : "?";
            at += word.length();
        } else if (!digits.isEmpty()) {
            token = digits.length() > 4 ? "?" : "#";
            at += digits.length();
        } else {
            token = "();+-*<=".indexOf(rest.charAt(0)) >= 0 ? rest.substring(0, 1) : "?";
            at++;
        }
    }
}
