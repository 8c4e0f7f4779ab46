import java.util.ArrayList;
import java.util.HashMap;
import java.util.List;
import java.util.Map;
import java.util.Random;

/** The document's sums done the long way round, to be held against the class: small towns only. */
final class Oracle {
    static final int NONE = -1;

    /** A light as told; kind is none, clock, hidden, button or police. */
    static final class Light {
        String kind = "none";
        int round = 1;
        int over;
        int span;
        boolean known;

        boolean timed() {
            return kind.equals("clock") || kind.equals("hidden");
        }

        boolean unseen() {
            return kind.equals("hidden") && !known;
        }
    }

    /** A rule's expression: its text, and what it comes to. */
    abstract static class Sum {
        abstract String text();

        abstract int value(int over, int on, int left, int up);
    }

    static final class Leaf extends Sum {
        final String word;

        Leaf(String word) {
            this.word = word;
        }

        String text() {
            return word;
        }

        int value(int over, int on, int left, int up) {
            switch (word) {
                case "over": return over;
                case "on": return on;
                case "left": return left;
                case "up": return up;
                default: return Integer.parseInt(word);
            }
        }
    }

    static final class Not extends Sum {
        final Sum part;

        Not(Sum part) {
            this.part = part;
        }

        String text() {
            return "not " + part.text();
        }

        int value(int over, int on, int left, int up) {
            return part.value(over, on, left, up) == 0 ? 1 : 0;
        }
    }

    static final class Bracket extends Sum {
        final Sum part;

        Bracket(Sum part) {
            this.part = part;
        }

        String text() {
            return "(" + part.text() + ")";
        }

        int value(int over, int on, int left, int up) {
            return part.value(over, on, left, up);
        }
    }

    static final class Two extends Sum {
        final Sum a;
        final String sign;
        final Sum b;

        Two(Sum a, String sign, Sum b) {
            this.a = a;
            this.sign = sign;
            this.b = b;
        }

        String text() {
            return a.text() + " " + sign + " " + b.text();
        }

        int value(int over, int on, int left, int up) {
            int x = a.value(over, on, left, up);
            int y = b.value(over, on, left, up);
            switch (sign) {
                case "+": return x + y;
                case "-": return x - y;
                case "*": return x * y;
                case "<": return x < y ? 1 : 0;
                case "=": return x == y ? 1 : 0;
                case "and": return x != 0 && y != 0 ? 1 : 0;
                default: return x != 0 || y != 0 ? 1 : 0;
            }
        }
    }

    final int wide;
    final int high;
    final Light[][] lights;
    final boolean[][][] bars;
    int walk = 10;
    int run = 10;
    int slow = 10;
    int runs;
    boolean child;
    final List<Sum> rules = new ArrayList<>();

    Oracle(int wide, int high) {
        this.wide = wide;
        this.high = high;
        lights = new Light[wide][high];
        bars = new boolean[wide][high][2];
        for (int x = 0; x < wide; x++) {
            for (int y = 0; y < high; y++) {
                lights[x][y] = new Light();
            }
        }
    }

    // ---- making one by chance

    static Oracle random(Random r, int mostWide, int mostHigh, int mostRound) {
        Oracle o = new Oracle(1 + r.nextInt(mostWide), 1 + r.nextInt(mostHigh));
        int density = 1 + r.nextInt(4);
        for (int x = 0; x < o.wide; x++) {
            for (int y = 0; y < o.high; y++) {
                o.bars[x][y][0] = r.nextInt(14) == 0;
                o.bars[x][y][1] = r.nextInt(14) == 0;
                if (r.nextInt(4) < density) {
                    o.lightByChance(r, x, y, mostRound);
                }
            }
        }
        o.walk = 1 + r.nextInt(r.nextBoolean() ? 6 : 30);
        o.run = 1 + r.nextInt(r.nextBoolean() ? o.walk : 30);
        o.slow = 1 + r.nextInt(30);
        o.runs = r.nextInt(4);
        o.child = r.nextInt(5) == 0;
        int many = r.nextInt(5);
        for (int i = 0; i < many; i++) {
            o.rules.add(expression(r, 0));
        }
        return o;
    }

    private void lightByChance(Random r, int x, int y, int mostRound) {
        Light l = new Light();
        l.kind = new String[] {"clock", "clock", "hidden", "hidden", "button", "police"}[r.nextInt(6)];
        l.round = 1 + r.nextInt(mostRound);
        l.over = r.nextInt(l.round);
        l.span = r.nextInt(l.round + 1);
        Light old = lights[x][y];
        lights[x][y] = l;
        if (common() > 1200) {
            lights[x][y] = old;
        }
    }

    static Sum expression(Random r, int depth) {
        Sum e = test(r, depth);
        for (int i = r.nextInt(6); i >= 4; i--) {
            e = new Two(e, r.nextBoolean() ? "and" : "or", test(r, depth));
        }
        return e;
    }

    private static Sum test(Random r, int depth) {
        Sum e = sum(r, depth);
        int sign = r.nextInt(3);
        return sign == 0 ? e : new Two(e, sign == 1 ? "<" : "=", sum(r, depth));
    }

    private static Sum sum(Random r, int depth) {
        Sum e = product(r, depth);
        for (int i = r.nextInt(6); i >= 4; i--) {
            e = new Two(e, r.nextBoolean() ? "+" : "-", product(r, depth));
        }
        return e;
    }

    private static Sum product(Random r, int depth) {
        Sum e = part(r, depth);
        for (int i = r.nextInt(6); i >= 5; i--) {
            e = new Two(e, "*", part(r, depth));
        }
        return e;
    }

    private static Sum part(Random r, int depth) {
        int k = r.nextInt(12);
        if (depth < 4 && k == 0) {
            return new Not(part(r, depth + 1));
        }
        if (depth < 4 && k == 1) {
            return new Bracket(expression(r, depth + 1));
        }
        if (k == 2) {
            return new Leaf("" + r.nextInt(10000));
        }
        if (k <= 5) {
            return new Leaf("" + r.nextInt(8));
        }
        return new Leaf(new String[] {"over", "on", "left", "up"}[r.nextInt(4)]);
    }

    String text() {
        StringBuilder s = new StringBuilder("town " + wide + " " + high + ";");
        for (int y = 0; y < high; y++) {
            for (int x = 0; x < wide; x++) {
                Light l = lights[x][y];
                if (!l.kind.equals("none")) {
                    s.append("light" + x + " " + y + l.kind + " round" + l.round + "over" + l.over + "for" + l.span + ";");
                }
                for (int way = 0; way < 2; way++) {
                    if (bars[x][y][way]) {
                        s.append("bar" + x + " " + y + (way == 0 ? "over;" : "on;"));
                    }
                }
            }
        }
        s.append("slow" + slow + ";walk" + walk + ";runs" + runs + ";run" + run + ";" + (child ? "child;" : ""));
        for (int i = 0; i < rules.size(); i++) {
            s.append("rule " + (char) ('a' + i) + " " + rules.get(i).text() + ";");
        }
        return s.toString();
    }

    // ---- what the words mean

    int common() {
        int common = 1;
        for (Light[] row : lights) {
            for (Light l : row) {
                if (l.timed()) {
                    int m = common;
                    while (m % l.round != 0) {
                        m += common;
                    }
                    common = m;
                }
            }
        }
        return common;
    }

    boolean home(int x, int y) {
        return x == wide - 1 && y == high - 1;
    }

    boolean isGreen(int x, int y, int way, int t) {
        Light l = lights[x][y];
        if (!l.timed()) {
            return true;
        }
        boolean over = Math.floorMod(t - l.over, l.round) < l.span;
        return over == (way == 0);
    }

    boolean can(int x, int y, int way) {
        if (bars[x][y][way] || (way == 0 ? x + 1 >= wide : y + 1 >= high)) {
            return false;
        }
        for (int t = 0; t < lights[x][y].round; t++) {
            if (isGreen(x, y, way, t)) {
                return true;
            }
        }
        return false;
    }

    /** Only where one can go. */
    int waits(int x, int y, int way, int t) {
        if (lights[x][y].kind.equals("button")) {
            return way == 0 ? lights[x][y].over : 0;
        }
        int w = 0;
        while (!isGreen(x, y, way, t + w)) {
            w++;
        }
        return w;
    }

    /** Every row of ways from a corner to the last one, over ahead of on. */
    List<String> rows(int x, int y) {
        List<String> all = new ArrayList<>();
        rows(x, y, "", all);
        return all;
    }

    private void rows(int x, int y, String so, List<String> all) {
        if (home(x, y)) {
            all.add(so);
            return;
        }
        if (can(x, y, 0)) {
            rows(x + 1, y, so + "0", all);
        }
        if (can(x, y, 1)) {
            rows(x, y + 1, so + "1", all);
        }
    }

    int timeOf(String row, int fromX, int fromY, int t) {
        int x = fromX;
        int y = fromY;
        int now = t;
        for (char c : row.toCharArray()) {
            int way = c - '0';
            now += waits(x, y, way, now) + walk;
            x += 1 - way;
            y += way;
        }
        return now;
    }

    int soonest(int x, int y, int t) {
        int best = NONE;
        for (String row : rows(x, y)) {
            int then = timeOf(row, x, y, t);
            best = best == NONE || then < best ? then : best;
        }
        return best;
    }

    String soonestRow(int x, int y, int t) {
        int best = soonest(x, y, t);
        for (String row : rows(x, y)) {
            if (timeOf(row, x, y, t) == best) {
                return row;
            }
        }
        return null;
    }

    int latest(int x, int y, int t) {
        int best = soonest(x, y, t);
        int last = NONE;
        for (int s = t; best != NONE && s < t + common(); s++) {
            last = soonest(x, y, s) == best ? s : last;
        }
        return last;
    }

    int turning(int t, int often) {
        int best = NONE;
        for (String row : rows(0, 0)) {
            int turns = 0;
            for (int i = 1; i < row.length(); i++) {
                turns += row.charAt(i) != row.charAt(i - 1) ? 1 : 0;
            }
            int then = timeOf(row, 0, 0, t);
            if (turns <= often && (best == NONE || then < best)) {
                best = then;
            }
        }
        return best;
    }

    // ---- goers

    private final Map<String, Integer> reckoned = new HashMap<>();

    void forget() {
        reckoned.clear();
    }

    /** What a goer takes; atWorst in seconds, else in thousandths. */
    int takes(int goer, int x, int y, int t, boolean atWorst) {
        if (home(x, y)) {
            return 0;
        }
        String key = goer + " " + x + " " + y + " " + t + " " + atWorst;
        Integer before = reckoned.get(key);
        if (before != null) {
            return before;
        }
        Light l = lights[x][y];
        int answer;
        if (l.unseen()) {
            long sum = 0;
            int most = 0;
            for (int s = 0; s < l.round && sum >= 0; s++) {
                int one = takesSeen(goer, x, y, t, s, atWorst);
                sum = one == NONE ? -1 : sum + one;
                most = Math.max(most, one);
            }
            answer = sum < 0 ? NONE : atWorst ? most : (int) (sum / l.round);
        } else {
            answer = takesSeen(goer, x, y, t, t, atWorst);
        }
        reckoned.put(key, answer);
        return answer;
    }

    private int takesSeen(int goer, int x, int y, int t, int seen, boolean atWorst) {
        int way = chooses(goer, x, y, t, seen, atWorst);
        return way == NONE ? NONE : takesBy(goer, x, y, t, seen, way, atWorst);
    }

    private int takesBy(int goer, int x, int y, int t, int seen, int way, boolean atWorst) {
        int spent = waits(x, y, way, seen) + walk;
        int rest = takes(goer, x + 1 - way, y + way, t + spent, atWorst);
        return rest == NONE ? NONE : spent * (atWorst ? 1 : 1000) + rest;
    }

    int chooses(int goer, int x, int y, int t, int seen, boolean atWorst) {
        boolean over = can(x, y, 0);
        boolean on = can(x, y, 1);
        if (goer == 3) {
            int byOver = over ? takesBy(3, x, y, t, seen, 0, atWorst) : NONE;
            int byOn = on ? takesBy(3, x, y, t, seen, 1, atWorst) : NONE;
            if (byOver == NONE) {
                return byOn == NONE ? NONE : 1;
            }
            return byOn == NONE || byOver <= byOn ? 0 : 1;
        }
        int overWait = over ? waits(x, y, 0, seen) : 999;
        int onWait = on ? waits(x, y, 1, seen) : 999;
        boolean wantsOver;
        if (goer < 2) {
            wantsOver = goer == 0;
        } else if (goer == 2) {
            wantsOver = overWait <= onWait;
        } else {
            wantsOver = rules.get(goer - 4).value(overWait, onWait, wide - 1 - x, high - 1 - y) != 0;
        }
        if (wantsOver) {
            return over ? 0 : on ? 1 : NONE;
        }
        return on ? 1 : over ? 0 : NONE;
    }

    /** A light is watched: it is a clock then, whose beginning is so far back. */
    int watch(int x, int y, int t) {
        Light l = lights[x][y];
        int unwatched = takes(3, 0, 0, t, false);
        long sum = 0;
        for (int s = 0; s < l.round; s++) {
            Light clock = new Light();
            clock.kind = "clock";
            clock.round = l.round;
            clock.span = l.span;
            clock.over = Math.floorMod(l.over - s, l.round);
            lights[x][y] = clock;
            forget();
            sum += takes(3, 0, 0, t, false);
        }
        lights[x][y] = l;
        forget();
        return unwatched - (int) (sum / l.round);
    }

    int worthiest(int t) {
        if (takes(3, 0, 0, t, false) == NONE) {
            return NONE;
        }
        int best = NONE;
        int most = 0;
        for (int y = 0; y < high; y++) {
            for (int x = 0; x < wide; x++) {
                if (lights[x][y].unseen()) {
                    int worth = watch(x, y, t);
                    if (best == NONE || worth > most) {
                        best = 8 * y + x;
                        most = worth;
                    }
                }
            }
        }
        return best;
    }

    int odds(int goer, int x, int y, int t, int by) {
        if (home(x, y)) {
            return t <= by ? 1000000 : 0;
        }
        String key = "odds " + goer + " " + x + " " + y + " " + t + " " + by;
        Integer before = reckoned.get(key);
        if (before != null) {
            return before;
        }
        Light l = lights[x][y];
        long sum = 0;
        int many = l.unseen() ? l.round : 1;
        for (int s = 0; s < many; s++) {
            int seen = l.unseen() ? s : t;
            int way = chooses(goer, x, y, t, seen, false);
            sum += odds(goer, x + 1 - way, y + way, t + waits(x, y, way, seen) + walk, by);
        }
        reckoned.put(key, (int) (sum / many));
        return (int) (sum / many);
    }

    int[] nights(int seed, int many, int goer) {
        long g = seed;
        int all = 0;
        int longest = 0;
        for (int n = 0; n < many; n++) {
            int[][] stand = new int[wide][high];
            for (int y = 0; y < high; y++) {
                for (int x = 0; x < wide; x++) {
                    if (lights[x][y].unseen()) {
                        g = Math.floorMod(g * 1103515245L + 12345L, 2147483648L);
                        stand[x][y] = (int) (g / 65536 % lights[x][y].round);
                    }
                }
            }
            int x = 0;
            int y = 0;
            int t = 0;
            while (!home(x, y)) {
                int seen = t + stand[x][y];
                int way = chooses(goer, x, y, t, seen, false);
                t += waits(x, y, way, seen) + walk;
                x += 1 - way;
                y += way;
            }
            all += t;
            longest = Math.max(longest, t);
        }
        return new int[] {all, longest};
    }

    // ---- along a walk

    /** Stands, end and streets of the best row, found by trying every row in order; null if it can't be. */
    int[] pace(String row, int t) {
        int[] best = new int[2 + row.length()];
        best[0] = 99;
        tryStreets(row, 0, 0, 0, t, 0, 0, new int[row.length()], best);
        return best[0] == 99 ? null : best;
    }

    private void tryStreets(String row, int i, int x, int y, int t, int stands, int ran, int[] so, int[] best) {
        if (i == row.length()) {
            if (stands < best[0] || stands == best[0] && t < best[1]) {
                best[0] = stands;
                best[1] = t;
                System.arraycopy(so, 0, best, 2, so.length);
            }
            return;
        }
        int way = row.charAt(i) - '0';
        if (!can(x, y, way)) {
            return;
        }
        int w = waits(x, y, way, t);
        for (int s = run > slow ? walk : run; s <= (run > slow ? walk : slow); s++) {
            int fast = ran + (s < walk ? 1 : 0);
            if (fast <= (child ? 0 : runs)) {
                so[i] = s;
                tryStreets(row, i + 1, x + 1 - way, y + way, t + w + s, stands + (w > 0 ? 1 : 0), fast, so, best);
            }
        }
    }

    int judged(String row, int[] seconds) {
        int x = 0;
        int y = 0;
        int come = 0;
        for (int i = 0; i < row.length(); i++) {
            int way = row.charAt(i) - '0';
            boolean good = seconds[i] >= come && isGreen(x, y, way, seconds[i]);
            if (lights[x][y].kind.equals("button") && way == 0 && seconds[i] < come + lights[x][y].over) {
                good = false;
            }
            if (!good) {
                return i;
            }
            come = seconds[i] + walk;
            x += 1 - way;
            y += way;
        }
        return NONE;
    }

    // ---- waves and sightings

    int[] wave(int x, int y, int many, boolean both) {
        int round = lights[x][y].round;
        int[] begins = new int[many];
        begins[0] = (lights[x][y].over + lights[x][y].span) % round;
        int[] best = new int[many];
        best[0] = -1;
        int rows = 1;
        for (int i = 1; i < many; i++) {
            rows *= round;
        }
        for (int k = 0; k < rows; k++) {
            int rest = k;
            for (int i = many - 1; i >= 1; i--) {
                begins[i] = rest % round;
                rest /= round;
            }
            int good = 0;
            for (int s = 0; s < round; s++) {
                boolean there = true;
                boolean back = both;
                for (int i = 0; i < many; i++) {
                    int length = round - lights[x][y + i].span;
                    there &= Math.floorMod(s + i * walk - begins[i], round) < length;
                    back &= Math.floorMod(s + (many - 1 - i) * walk - begins[i], round) < length;
                }
                good += (there ? 1 : 0) + (back ? 1 : 0);
            }
            if (good > best[0]) {
                best[0] = good;
                System.arraycopy(begins, 1, best, 1, many - 1);
            }
        }
        return best;
    }

    /** seen has corner over, on and second of each sighting. */
    List<String> fits(List<int[]> seen) {
        List<String> good = new ArrayList<>();
        for (String row : rows(0, 0)) {
            boolean all = true;
            for (int[] one : seen) {
                all &= isThere(row, one);
            }
            if (all) {
                good.add(row);
            }
        }
        return good;
    }

    private boolean isThere(String row, int[] one) {
        int x = 0;
        int y = 0;
        int t = 0;
        for (int i = 0; i <= row.length(); i++) {
            boolean last = i == row.length();
            int way = last ? 0 : row.charAt(i) - '0';
            int leave = last ? Integer.MAX_VALUE : t + waits(x, y, way, t);
            if (x == one[0] && y == one[1] && t <= one[2] && one[2] <= leave) {
                return true;
            }
            t = leave + walk;
            x += 1 - way;
            y += way;
        }
        return false;
    }

    long common(List<String> rows, int firstRow, int endRow) {
        long all = -1;
        for (String row : rows) {
            long bits = 0;
            int x = 0;
            int y = 0;
            for (int i = 0; i <= row.length(); i++) {
                if (y >= firstRow && y < endRow) {
                    bits |= 1L << 8 * (y - firstRow) + x;
                }
                int way = i == row.length() ? 0 : row.charAt(i) - '0';
                x += 1 - way;
                y += way;
            }
            all &= bits;
        }
        return all;
    }
}
