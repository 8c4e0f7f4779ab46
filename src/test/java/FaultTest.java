import java.util.HashSet;
import java.util.List;
import java.util.Random;
import java.util.Set;

/** Texts spoilt by chance, each fault held against another reader: promises 2, 3 and 4. */
final class FaultTest {
    private static final Check CHECK = new Check();
    private static final List<String> BITS = List.of("town", "light", "bar", "rule", "walk", "run", "slow", "runs", "child",
        "round", "over", "on", "for", "clock", "hidden", "button", "police", "not", "and", "or", "left", "up", "(", ")", "<",
        "=", "+", "-", "*", ";", "0", "1", "2", "7", "9", "10", "30", "31", "59", "60", "61", "9999", "10000", "00001", "0000",
        "a", "b", "abcdefgh", "abcdefghi", "#", "A", ">", "\n", " ", "{", "~", "(((((1)))))", "not not not not not 1",
        "((((1))))", "not not not not 1", "not(not(over))", "rule z 1;", "rule up on;", "town 1 1;");

    public static void main(String[] args) {
        int texts = args.length > 0 ? Integer.parseInt(args[0]) : 20000;
        Random r = new Random(args.length > 1 ? Integer.parseInt(args[1]) : 3);
        for (int i = 0; i < texts; i++) {
            Oracle o = Oracle.random(r, 6, 9, r.nextBoolean() ? 60 : 8);
            String text = spoil(o.text(), r, r.nextInt(4));
            if (text.length() <= 1000) {
                town(text);
            }
            walks(o, r);
        }
        CHECK.end();
    }

    private static String spoil(String text, Random r, int times) {
        StringBuilder s = new StringBuilder(text);
        for (int i = 0; i < times; i++) {
            int at = r.nextInt(s.length() + 1);
            switch (r.nextInt(4)) {
                case 0: s.insert(at, " " + BITS.get(r.nextInt(BITS.size())) + " "); break;
                case 1: s.insert(at, BITS.get(r.nextInt(BITS.size()))); break;
                case 2: s.delete(at, Math.min(s.length(), at + 1 + r.nextInt(5))); break;
                default:
                    int end = Math.min(s.length(), at + 1 + r.nextInt(4));
                    s.replace(at, end, BITS.get(r.nextInt(BITS.size())));
            }
        }
        return s.toString();
    }

    private static void town(String text) {
        OverFirst x = Check.made("town 2 2;rule keep 1;");
        x.stay(3);
        int due = new FaultReader(text).townFault();
        CHECK.due("feed " + text, Check.lay(x, text), text.length());
        CHECK.due("town() of " + text, x.town(), due);
        CHECK.due("the tape after " + text, x.count(14), 0);
        if (due != 0) {
            CHECK.due("what stays after " + text, x.count(0) == 2 && x.count(1) == 2 && x.count(3) == 1 && x.count(7) == 3, true);
        } else {
            CHECK.due("what is new after " + text, x.count(7) == 0 && x.count(13) == 0, true);
        }
    }

    private static void walks(Oracle o, Random r) {
        String text = o.text();
        if (text.length() > 1000) {
            return;
        }
        Set<String> bars = new HashSet<>();
        for (int x = 0; x < o.wide; x++) {
            for (int y = 0; y < o.high; y++) {
                for (int way = 0; way < 2; way++) {
                    if (o.bars[x][y][way]) {
                        bars.add(x + " " + y + " " + (way == 0 ? "over" : "on"));
                    }
                }
            }
        }
        OverFirst x = Check.made(text);
        StringBuilder walk = new StringBuilder();
        for (int i = r.nextInt(15); i > 0; i--) {
            walk.append(r.nextInt(14) < 5 ? "over " : "on ").append(r.nextInt(10000)).append(r.nextBoolean() ? ";" : " ;\n");
        }
        String spoilt = spoil(walk.toString(), r, r.nextInt(2));
        Check.lay(x, spoilt);
        CHECK.due("walk() of " + spoilt + " in " + text, x.walk(), new FaultReader(spoilt).walkFault(o.wide, o.high, bars));
        CHECK.due("the tape after " + spoilt, x.count(14), 0);
    }
}
