import java.util.ArrayList;
import java.util.List;
import java.util.Random;

/** Towns made by chance, each answer held against the long way round: promises 5 to 30. */
final class OracleTest {
    private static final Check CHECK = new Check();
    private static String where;

    public static void main(String[] args) {
        int towns = args.length > 0 ? Integer.parseInt(args[0]) : 1500;
        int seed = args.length > 1 ? Integer.parseInt(args[1]) : 7;
        Random r = new Random(seed);
        int made = 0;
        for (int i = 0; made < towns && i < 10 * towns; i++) {
            int[][] sizes = {{3, 4, 9}, {2, 5, 20}, {5, 5, 4}, {3, 3, 60}};
            int[] size = sizes[i % sizes.length];
            Oracle o = Oracle.random(r, size[0], size[1], size[2]);
            String text = o.text();
            if (text.length() <= 1000) {
                made++;
                where = "[" + seed + "/" + i + "] " + text + "\n  ";
                compare(o, Check.made(text), r);
            }
        }
        CHECK.end();
    }

    private static void compare(Oracle o, OverFirst x, Random r) {
        CHECK.due(where + "count(12)", x.count(12), o.common());
        CHECK.due(where + "count(3)", x.count(3), o.rules.size());
        lights(o, x, r);
        knowSome(o, x, r);
        asTold(o, x, r);
        goers(o, x, r);
        bestOnes(o, x, r);
        walked(o, x, r);
        waves(o, x, r);
        sightings(o, x, r);
    }

    private static void lights(Oracle o, OverFirst x, Random r) {
        for (int i = 0; i < o.wide; i++) {
            for (int j = 0; j < o.high; j++) {
                Oracle.Light l = o.lights[i][j];
                int kind = List.of("none", "clock", "hidden", "button", "police").indexOf(l.kind) - 1;
                CHECK.due(where + "light 0", x.light(i, j, 0), kind);
                CHECK.due(where + "light 1", x.light(i, j, 1), kind < 0 ? -1 : l.round);
                CHECK.due(where + "light 2", x.light(i, j, 2), kind < 0 ? -1 : l.over);
                CHECK.due(where + "light 3", x.light(i, j, 3), kind < 0 ? -1 : l.span);
                CHECK.due(where + "light 4", x.light(i, j, 4), kind < 0 ? -1 : 0);
                CHECK.due(where + "light 5", x.light(i, j, 5), (o.bars[i][j][0] ? 1 : 0) + (o.bars[i][j][1] ? 2 : 0));
                int way = r.nextInt(2);
                int t = r.nextInt(3) == 0 ? 1000000 - r.nextInt(70) : r.nextInt(100);
                boolean can = o.can(i, j, way);
                int green = l.kind.equals("button") ? way : o.isGreen(i, j, way, t) ? 1 : 0;
                CHECK.due(where + "green " + i + j + way + " " + t, x.green(i, j, way, t), can ? green : -1);
                CHECK.due(where + "until " + i + j + way + " " + t, x.until(i, j, way, t), can ? o.waits(i, j, way, t) : -1);
            }
        }
    }

    /** A light is known only by going there: by hand, and looking. */
    private static void knowSome(Oracle o, OverFirst x, Random r) {
        int rounds = r.nextInt(3);
        int second = 0;
        int i = 0;
        int j = 0;
        for (int n = 0; n < 12 * rounds; n++) {
            int way = r.nextInt(2);
            if (r.nextInt(3) == 0) {
                boolean hidden = o.lights[i][j].unseen();
                CHECK.due(where + "look " + i + j, x.look(), hidden);
                o.lights[i][j].known |= hidden;
                CHECK.due(where + "light 4", x.light(i, j, 4), hidden || o.lights[i][j].known ? 1 : o.lights[i][j].kind.equals("none") ? -1 : 0);
            } else if (r.nextInt(4) == 0) {
                second += 5;
                CHECK.due(where + "stay", x.stay(5), second);
            } else if (o.can(i, j, way)) {
                boolean run = r.nextInt(3) == 0 && x.count(8) > 0;
                second += o.waits(i, j, way, second) + (run ? o.run : o.walk);
                CHECK.due(where + "go", x.go(way, run), second);
                i += 1 - way;
                j += way;
            } else {
                CHECK.due(where + "go", x.go(way, false), -1);
            }
        }
        o.forget();
    }

    private static int second(Random r) {
        return r.nextInt(4) == 0 ? 999000 + r.nextInt(1001) : r.nextInt(200);
    }

    private static void asTold(Oracle o, OverFirst x, Random r) {
        int i = r.nextInt(o.wide);
        int j = r.nextInt(o.high);
        int t = second(r);
        int soonest = o.soonest(i, j, t);
        CHECK.due(where + "soonest " + i + j + " " + t, x.soonest(i, j, t, -1), soonest == -1 ? -2 : soonest);
        String row = o.soonestRow(i, j, t);
        for (int n = 0; n < 14; n++) {
            int due = row == null || n >= row.length() ? -2 : row.charAt(n) - '0';
            CHECK.due(where + "soonest " + i + j + " " + t + " way " + n, x.soonest(i, j, t, n), due);
        }
        CHECK.due(where + "latest " + i + j + " " + t, x.latest(i, j, t), o.common() > 150 && o.wide + o.high > 6 ? x.latest(i, j, t) : o.latest(i, j, t));
        for (int often = 0; often <= 12; often += 1 + r.nextInt(4)) {
            CHECK.due(where + "turning " + t + " " + often, x.turning(t, often), o.turning(t, often));
        }
    }

    private static void goers(Oracle o, OverFirst x, Random r) {
        for (int goer = 0; goer < 4 + o.rules.size(); goer++) {
            int i = r.nextInt(3) == 0 ? r.nextInt(o.wide) : 0;
            int j = r.nextInt(3) == 0 ? r.nextInt(o.high) : 0;
            int t = second(r);
            CHECK.due(where + "mean " + goer + " " + i + j + " " + t, x.mean(goer, i, j, t), o.takes(goer, i, j, t, false));
            CHECK.due(where + "worst " + goer + " " + i + j + " " + t, x.worst(goer, i, j, t), o.takes(goer, i, j, t, true));
            int mean = o.takes(goer, 0, 0, t, false);
            int by = t + (mean == -1 ? 0 : mean / 1000) + r.nextInt(21) - 10;
            if (by >= 0 && by <= 1000000) {
                CHECK.due(where + "odds " + goer + " " + t + " " + by, x.odds(goer, t, by), mean == -1 ? -1 : o.odds(goer, 0, 0, t, by));
            }
            int seed = r.nextInt();
            int many = 1 + r.nextInt(30);
            boolean never = o.takes(goer, 0, 0, 0, false) == -1;
            CHECK.due(where + "nights 0 " + goer, x.nights(seed, many, goer, 0), never ? -1 : o.nights(seed, many, goer)[0]);
            CHECK.due(where + "nights 1 " + goer, x.nights(seed, many, goer, 1), never ? -1 : o.nights(seed, many, goer)[1]);
        }
        CHECK.due(where + "mean beyond", x.mean(4 + o.rules.size(), 0, 0, 0), -1);
        int best = -1;
        for (int rule = 0; rule < o.rules.size(); rule++) {
            int mean = o.takes(4 + rule, 0, 0, 0, false);
            if (mean != -1 && (best == -1 || mean < o.takes(4 + best, 0, 0, 0, false))) {
                best = rule;
            }
        }
        CHECK.due(where + "rules", x.rules(), best);
    }

    private static void bestOnes(Oracle o, OverFirst x, Random r) {
        int i = r.nextInt(o.wide);
        int j = r.nextInt(o.high);
        int t = second(r);
        Oracle.Light l = o.lights[i][j];
        int at = r.nextInt(l.round);
        int way = o.home(i, j) ? -1 : o.chooses(3, i, j, t, l.unseen() ? at : t, false);
        CHECK.due(where + "choice " + i + j + " " + t + " " + at, x.choice(i, j, t, at), way);
        CHECK.due(where + "choice at", x.choice(i, j, t, l.round), l.unseen() ? -1 : way);
        CHECK.due(where + "choice at", x.choice(i, j, t, -1), l.unseen() ? -1 : way);
        int two = o.takes(2, i, j, t, false);
        int three = o.takes(3, i, j, t, false);
        CHECK.due(where + "gap " + i + j + " " + t, x.gap(i, j, t), two == -1 || three == -1 ? -1 : two - three);
        boolean mean = o.takes(3, 0, 0, t, false) != -1;
        for (int a = 0; a < o.wide; a++) {
            for (int b = 0; b < o.high; b++) {
                CHECK.due(where + "watch " + a + b + " " + t, x.watch(a, b, t), mean && o.lights[a][b].unseen() ? o.watch(a, b, t) : -1);
            }
        }
        CHECK.due(where + "worthiest " + t, x.worthiest(t), o.worthiest(t));
        CHECK.due(where + "mean again", x.mean(3, i, j, t), three);
    }

    private static void walked(Oracle o, OverFirst x, Random r) {
        StringBuilder row = new StringBuilder();
        StringBuilder text = new StringBuilder();
        int[] seconds = new int[20];
        int i = 0;
        int j = 0;
        int t = 0;
        for (int n = 0; n < 4; n++) {
            int way = r.nextInt(2);
            if (!(o.bars[i][j][way] || (way == 0 ? i + 1 >= o.wide : j + 1 >= o.high))) {
                t += o.can(i, j, way) ? o.waits(i, j, way, t) : 0;
                t += r.nextInt(8) == 0 ? r.nextInt(9) - 4 : 0;
                seconds[row.length()] = Math.max(0, t);
                text.append(way == 0 ? "over " : "on ").append(seconds[row.length()]).append(";");
                row.append(way);
                t += o.walk;
                i += 1 - way;
                j += way;
            }
        }
        CHECK.due(where + "walk " + text, Check.walk(x, text.toString()), 0);
        CHECK.due(where + "count(4)", x.count(4), row.length());
        CHECK.due(where + "judged " + text, x.judged(), o.judged(row.toString(), seconds));
        int from = second(r);
        double work = Math.pow(Math.max(1, o.slow - o.run + 1), row.length());
        if (row.length() > 0 && work < 30000) {
            int[] pace = o.pace(row.toString(), from);
            for (int what = 0; what < 2 + row.length(); what++) {
                CHECK.due(where + "pace " + text + " " + from + " " + what, x.pace(from, what), pace == null ? -1 : pace[what]);
            }
        }
        CHECK.due(where + "pace beyond", x.pace(from, 2 + row.length()), -1);
    }

    private static void waves(Oracle o, OverFirst x, Random r) {
        for (int i = 0; i < o.wide; i++) {
            for (int j = 0; j < o.high; j++) {
                int many = 2 + r.nextInt(3);
                boolean both = r.nextBoolean();
                boolean can = j + many <= o.high;
                for (int n = 0; can && n < many; n++) {
                    can = o.lights[i][j + n].timed() && o.lights[i][j + n].round == o.lights[i][j].round;
                }
                int[] wave = can ? o.wave(i, j, many, both) : null;
                for (int what = 0; what < many; what++) {
                    CHECK.due(where + "wave " + i + j + many + both + what, x.wave(i, j, many, both, what), can ? wave[what] : -1);
                }
            }
        }
    }

    private static void sightings(Oracle o, OverFirst x, Random r) {
        List<int[]> seen = new ArrayList<>();
        List<String> rows = o.rows(0, 0);
        for (int n = 0; n < 5; n++) {
            List<String> good = o.fits(seen);
            CHECK.due(where + "fits 0", x.fits(0), good.size());
            long bits = 0;
            for (int i = 0; !good.isEmpty() && i < good.get(0).length(); i++) {
                bits |= (long) (good.get(0).charAt(i) - '0') << i;
            }
            CHECK.due(where + "fits 1", x.fits(1), good.isEmpty() ? -1 : bits);
            CHECK.due(where + "fits 2", x.fits(2), good.isEmpty() ? -1 : o.common(good, 0, 8));
            CHECK.due(where + "fits 3", x.fits(3), good.isEmpty() ? -1 : o.common(good, 8, 9));
            int[] one = {r.nextInt(o.wide), r.nextInt(o.high), 0};
            String row = rows.isEmpty() ? "" : rows.get(r.nextInt(rows.size()));
            if (r.nextInt(4) > 0) {
                int cut = r.nextInt(row.length() + 1);
                String part = row.substring(0, cut);
                one[1] = (int) part.chars().filter(c -> c == '1').count();
                one[0] = cut - one[1];
                one[2] = o.timeOf(part, 0, 0, 0) + (r.nextInt(3) == 0 ? r.nextInt(4) : 0);
            }
            seen.add(one);
            CHECK.due(where + "was", x.was(one[0], one[1], one[2]), true);
            CHECK.due(where + "count(11)", x.count(11), seen.size());
        }
    }
}
