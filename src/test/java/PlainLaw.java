import java.util.ArrayList;
import java.util.List;

/** A BY-LAW's text as a tree, read byte by byte. */
final class PlainLaw {
    static final String[] KINDS = {"carry", "stop", "fare", "hold", "fine", "gas", "dock"};
    static final String[] FACTS = {"car", "wagon", "taxi", "insured", "riders", "seats", "rain", "minute", "day",
        "from", "to", "times"};

    interface Cond {
        boolean holds(int[] facts);
    }

    static final class Line {
        int what;
        int value;
        Cond cond;
    }

    static final class Fault extends RuntimeException {
        private static final long serialVersionUID = 1L;
    }

    final String text;
    final List<Line> lines = new ArrayList<>();
    int fault;
    int place;
    private int at;
    private int start;
    private String token;
    private int ones;
    private boolean docked;

    PlainLaw(String itsText) {
        text = itsText;
        try {
            advance();
            while (!token.equals("end")) line();
        } catch (Fault f) {
            lines.clear();
        }
    }

    private void fail(int kind) {
        fault = kind;
        place = start;
        throw new Fault();
    }

    /** Tokens: a word, a number, a sign; "end" and "?" can't be mixed with words of a text: "end" is no word of it. */
    private void advance() {
        while (at < Math.min(300, text.length()) && (text.charAt(at) == ' ' || text.charAt(at) == '\n')) at++;
        if (at >= Math.min(300, text.length())) {
            start = Math.min(300, text.length());
            token = text.length() > 300 ? "?" : "end";
            return;
        }
        start = at;
        while (at < text.length() && String.valueOf(text.charAt(at)).matches("[a-z0-9]")) at++;
        if (at == start) at++;
        token = text.substring(start, at);
        if (!token.matches("[a-z]{1,8}|[0-9]{1,4}|[;()<=>]") || token.equals("end")) token = "?";
    }

    private static int find(String[] row, String word) {
        for (int i = 0; i < row.length; i++) if (row[i].equals(word)) return i;
        return -1;
    }

    private boolean isNumber() {
        return token.matches("[0-9]+");
    }

    private void line() {
        Line line = new Line();
        line.what = find(KINDS, token);
        if (line.what < 0) fail(1);
        if (lines.size() == 16) fail(3);
        if (line.what == 6) {
            if (docked) fail(3);
            docked = true;
        }
        advance();
        if (line.what < 2) {
            line.value = 1;
            if (token.equals("not")) {
                line.value = 0;
                advance();
            }
        } else {
            if (!isNumber()) fail(1);
            line.value = Integer.parseInt(token);
            if (line.value > 2000) fail(2);
            advance();
        }
        if (line.what != 6 && token.equals("if")) {
            advance();
            line.cond = cond(1);
        }
        expect(";");
        lines.add(line);
    }

    private void expect(String wanted) {
        if (!token.equals(wanted)) fail(1);
        advance();
    }

    private Cond cond(int depth) {
        Cond left = all(depth);
        while (token.equals("or")) {
            advance();
            Cond a = left;
            Cond b = all(depth);
            left = f -> a.holds(f) || b.holds(f);
        }
        return left;
    }

    private Cond all(int depth) {
        Cond left = one(depth);
        while (token.equals("and")) {
            advance();
            Cond a = left;
            Cond b = one(depth);
            left = f -> a.holds(f) && b.holds(f);
        }
        return left;
    }

    private Cond one(int depth) {
        int fact = find(FACTS, token);
        if (fact < 0 && !token.equals("not") && !token.equals("(")) fail(1);
        ones++;
        if (ones > 50 || depth > 10) fail(4);
        String first = token;
        advance();
        if (first.equals("not")) {
            Cond c = one(depth + 1);
            return f -> !c.holds(f);
        }
        if (first.equals("(")) {
            Cond c = cond(depth + 1);
            expect(")");
            return c;
        }
        if (fact < 4) return f -> f[fact] == 1;
        String sign = token;
        if (!sign.matches("[<=>]")) fail(1);
        advance();
        if (!isNumber()) fail(1);
        int number = Integer.parseInt(token);
        advance();
        return f -> sign.equals("<") ? f[fact] < number : sign.equals("=") ? f[fact] == number : f[fact] > number;
    }
}
