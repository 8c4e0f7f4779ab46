import java.util.ArrayList;
import java.util.List;
import java.util.Random;

/**
 * Calls by chance with any numbers, 512 on each object: none may throw, and each answer must be the one of a fresh
 * object that has only been through the calls that change something (so nothing reckoned before may be left over).
 */
final class FreshTest {
    private static final Check CHECK = new Check();
    private static final int[] EDGES = {Integer.MIN_VALUE, -3, -2, -1, 0, 1, 2, 3, 4, 5, 7, 8, 9, 12, 13, 14, 15, 30, 31, 59, 60, 1000,
        1001, 9999, 10000, 999999, 1000000, 1000001, Integer.MAX_VALUE};

    /** One call: its number among the face's methods, and its arguments. */
    private static final class Call {
        int method;
        String text;
        final int[] ints = new int[5];
        boolean yes;
    }

    public static void main(String[] args) {
        int objects = args.length > 0 ? Integer.parseInt(args[0]) : 120;
        Random r = new Random(args.length > 1 ? Integer.parseInt(args[1]) : 5);
        for (int i = 0; i < objects; i++) {
            run(r, i);
        }
        CHECK.end();
    }

    private static void run(Random r, int object) {
        OverFirst x = new OverFirst();
        List<Call> changes = new ArrayList<>();
        boolean wild = object % 3 == 0;
        for (int n = 0; n < 512; n++) {
            Call c = call(r, n, wild);
            long got = answer(x, c);
            if (c.method <= 9) {
                changes.add(c);
            } else if (r.nextInt(4) == 0) {
                OverFirst fresh = new OverFirst();
                for (Call change : changes) {
                    answer(fresh, change);
                }
                CHECK.due("object " + object + " call " + n + " method " + c.method, got, answer(fresh, c));
            }
        }
    }

    private static Call call(Random r, int n, boolean wild) {
        Call c = new Call();
        c.method = n % 128 == 0 ? 1 : n % 64 == 1 ? 2 : r.nextInt(30) == 0 ? r.nextInt(3) : 3 + r.nextInt(28);
        c.yes = r.nextBoolean();
        for (int i = 0; i < c.ints.length; i++) {
            c.ints[i] = wild && r.nextInt(3) == 0 ? EDGES[r.nextInt(EDGES.length)] : r.nextInt(3) == 0 ? r.nextInt(100) : r.nextInt(4);
        }
        if (c.method == 1) {
            do {
                c.text = Oracle.random(r, 6, 9, r.nextBoolean() ? 60 : 12).text();
            } while (c.text.length() > 1000);
            if (r.nextInt(6) == 0) {
                c.text = c.text + " walk 1; walk 1;";
            }
        } else if (c.method == 2) {
            StringBuilder s = new StringBuilder();
            for (int i = r.nextInt(6); i > 0; i--) {
                s.append(r.nextBoolean() ? "over " : "on ").append(r.nextInt(60)).append(';');
            }
            c.text = s.toString();
        }
        return c;
    }

    /** The methods up to 9 change something. */
    private static long answer(OverFirst x, Call c) {
        int a = c.ints[0];
        int b = c.ints[1];
        int d = c.ints[2];
        int e = c.ints[3];
        switch (c.method) {
            case 0: return x.feed(a * 0x123456789ABCDEFL, (long) b << 40, d);
            case 1: return Check.town(x, c.text);
            case 2: return Check.walk(x, c.text);
            case 3: return x.go(a, c.yes);
            case 4: return x.stay(a);
            case 5: return x.look() ? 1 : 0;
            case 6: return x.undo() ? 1 : 0;
            case 7: return x.tried(a, b, c.yes, d) ? 1 : 0;
            case 8: return x.was(a, b, d) ? 1 : 0;
            case 9: return x.mark(a, c.yes) ? 1 : 0;
            case 10: return x.light(a, b, d);
            case 11: return x.green(a, b, d, e);
            case 12: return x.until(a, b, d, e);
            case 13: return x.judged();
            case 14: return x.soonest(a, b, d, e);
            case 15: return x.mean(a, b, d, e);
            case 16: return x.worst(a, b, d, e);
            case 17: return x.choice(a, b, d, e);
            case 18: return x.gap(a, b, d);
            case 19: return x.watch(a, b, d);
            case 20: return x.latest(a, b, d);
            case 21: return x.turning(a, b);
            case 22: return x.worthiest(a);
            case 23: return x.odds(a, b, d);
            case 24: return x.pace(a, b);
            case 25: return x.does(a, b, d);
            case 26: return x.wave(a, b, d, c.yes, e);
            case 27: return x.rules();
            case 28: return x.fits(a);
            case 29: return x.nights(a, b, d, e);
            default: return x.count(a);
        }
    }
}
