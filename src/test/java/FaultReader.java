import java.util.ArrayList;
import java.util.HashSet;
import java.util.List;
import java.util.Set;
import java.util.regex.Matcher;
import java.util.regex.Pattern;

/** Finds a text's fault by reading its tokens out of a list and leaving with an exception at the first wrong one. */
final class FaultReader {
    private static final Set<String> RESERVED = Set.of("town", "light", "bar", "rule", "walk", "run", "slow", "runs",
        "child", "round", "over", "on", "for", "clock", "hidden", "button", "police", "not", "and", "or");

    private static final class Fault extends RuntimeException {
        private static final long serialVersionUID = 1;
        final int code;

        Fault(int code) {
            this.code = code;
        }
    }

    private final List<String> tokens = new ArrayList<>();
    private final List<Integer> places = new ArrayList<>();
    private int at;
    private int wide;
    private int high;

    FaultReader(String text) {
        Matcher m = Pattern.compile("[a-z]+|[0-9]+|[^ \n]").matcher(text);
        while (m.find()) {
            tokens.add(m.group());
            places.add(m.start());
        }
        tokens.add("");
        places.add(text.length());
    }

    int townFault() {
        try {
            readTown();
            return 0;
        } catch (Fault f) {
            return f.code;
        }
    }

    /** bars has "x y way" of each bar. */
    int walkFault(int townWide, int townHigh, Set<String> bars) {
        try {
            int x = 0;
            int y = 0;
            int lines = 0;
            while (!look().isEmpty()) {
                need(look().equals("over") || look().equals("on"), 1);
                boolean over = look().equals("over");
                need(over ? x + 1 < townWide : y + 1 < townHigh, 2);
                need(!bars.contains(x + " " + y + " " + look()), 2);
                need(lines < 13, 5);
                at++;
                number(0, 9999);
                word(";");
                lines++;
                x += over ? 1 : 0;
                y += over ? 0 : 1;
            }
            return 0;
        } catch (Fault f) {
            return f.code;
        }
    }

    private String look() {
        return tokens.get(at);
    }

    private void need(boolean good, int kind) {
        if (!good) {
            throw new Fault(kind + 16 * places.get(at));
        }
    }

    private void word(String which) {
        need(look().equals(which), 1);
        at++;
    }

    private int number(int least, int most) {
        need(look().matches("[0-9]{1,4}"), 1);
        int n = Integer.parseInt(look());
        need(n >= least && n <= most, 4);
        at++;
        return n;
    }

    private void readTown() {
        word("town");
        wide = number(1, 6);
        high = number(1, 9);
        word(";");
        Set<String> told = new HashSet<>();
        Set<String> names = new HashSet<>();
        int rules = 0;
        int common = 1;
        while (!look().isEmpty()) {
            String line = look();
            need(List.of("light", "bar", "rule", "walk", "run", "slow", "runs", "child").contains(line), 1);
            if (line.equals("light")) {
                common = light(told, common);
            } else if (line.equals("bar")) {
                at++;
                int x = number(0, wide - 1);
                int y = number(0, high - 1);
                need(look().equals("over") || look().equals("on"), 1);
                need(told.add("bar " + x + " " + y + look()), 3);
                at++;
            } else if (line.equals("rule")) {
                need(rules < 4, 5);
                rules++;
                at++;
                need(look().matches("[a-z]{1,8}") && !RESERVED.contains(look()), 1);
                need(names.add(look()), 3);
                at++;
                expression(0);
            } else {
                need(told.add(line), 3);
                at++;
                if (!line.equals("child")) {
                    number(line.equals("runs") ? 0 : 1, line.equals("runs") ? 9 : 30);
                }
            }
            word(";");
        }
    }

    private int light(Set<String> told, int common) {
        at++;
        int x = number(0, wide - 1);
        int y = number(0, high - 1);
        at--;
        need(told.add("light " + x + " " + y), 3);
        at++;
        need(List.of("clock", "hidden", "button", "police").contains(look()), 1);
        boolean timed = look().equals("clock") || look().equals("hidden");
        at++;
        word("round");
        int round = number(1, 60);
        int now = common;
        while (timed && now % round != 0) {
            now += common;
        }
        at--;
        need(now <= 1200, 4);
        at++;
        word("over");
        number(0, round - 1);
        word("for");
        number(0, round);
        return now;
    }

    private void expression(int depth) {
        test(depth);
        while (look().equals("and") || look().equals("or")) {
            at++;
            test(depth);
        }
    }

    private void test(int depth) {
        sum(depth);
        if (look().equals("<") || look().equals("=")) {
            at++;
            sum(depth);
        }
    }

    private void sum(int depth) {
        product(depth);
        while (look().equals("+") || look().equals("-")) {
            at++;
            product(depth);
        }
    }

    private void product(int depth) {
        part(depth);
        while (look().equals("*")) {
            at++;
            part(depth);
        }
    }

    private void part(int depth) {
        need(look().matches("[0-9]{1,4}|over|on|left|up|not|\\("), 1);
        need(depth < 5, 5);
        String first = look();
        at++;
        if (first.equals("not")) {
            part(depth + 1);
        } else if (first.equals("(")) {
            expression(depth + 1);
            word(")");
        }
    }
}
