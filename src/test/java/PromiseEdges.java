/** The edges that each promise names: what is refused, the first and last that is not, and that a refused call changes nothing. */
final class PromiseEdges extends Edges {
    /** A clock at 0 0, a hidden one at 1 0, a button at 0 1, police at 1 1, bars at 2 1; no light at 2 0. */
    private static final String TOWN = "town 3 4;walk 5;run 2;slow 7;runs 2;light 0 0 clock round 10 over 0 for 4;light 1 0 hidden round 4 over 1 for 2;"
        + "light 0 1 button round 9 over 6 for 9;light 1 1 police round 1 over 0 for 0;bar 2 1 on;bar 2 1 over;bar 1 2 on;rule a 1;rule b 0;";
    /** No corners of it, the nearest ones too. */
    private static final int[][] NO_CORNERS = {{-1, 0}, {0, -1}, {3, 0}, {0, 4}, {3, 4}, {2, 4}, {3, 3}, {6, 0}, {0, 9}, {MIN, 0}, {0, MIN}, {MAX, 0}, {0, MAX},
        {MIN, MIN}, {MAX, MAX}, {-1, 1}, {6, -1}, {-6, 1}};

    PromiseEdges(Doc doc, Check check) {
        super(doc, check);
    }

    @Override
    void run() {
        newObject();
        feed();
        town();
        walk();
        light();
        green();
        until();
        go();
        stay();
        look();
        undo();
        judged();
        soonest();
        mean();
        worst();
        choice();
        gap();
        watch();
        latest();
        turning();
        worthiest();
        odds();
        pace();
        tried();
        does();
        wave();
        rules();
        was();
        fits();
        nights();
        mark();
        count();
        fiveHundredAndTwelve();
    }

    /** Every count, to see that a refused call changes nothing. */
    private static String all(OverFirst x) {
        StringBuilder s = new StringBuilder();
        for (int what = 0; what <= 14; what++) {
            s.append(x.count(what)).append(' ');
        }
        return s.toString();
    }

    private void same(String what, OverFirst x, String before) {
        due(what + " changes nothing: " + before + "to " + all(x), all(x).equals(before), true);
    }

    private void newObject() {
        doc.says(1, "Town 1 1.");
        OverFirst x = new OverFirst();
        due("all counts", all(x).equals("1 1 0 0 0 0 0 0 0 0 0 0 1 0 0 "), true);
        OverFirst other = new OverFirst();
        other.stay(3);
        Check.town(other, "town 2 2;");
        due("another object's town is its own", x.count(0), 1);
        due("another object's second is its own", x.count(7), 0);
        due("HOME", x.soonest(0, 0, 0, -1), 0);
        due("no way over", x.go(0, false), -1);
        due("no way on", x.go(1, false), -1);
        due("no WALK", x.judged(), -1);
        due("no WALK", x.pace(0, 0), -1);
        due("nothing can be undone", x.undo(), false);
        for (int mark = 0; mark < 4; mark++) {
            due("no MARK", x.mark(mark, true), false);
        }
    }

    private void feed() {
        doc.says(2, "Up to 24 signs come behind the TAPE: the bytes of a, b, c, of each the highest first; others than 10 and 32 .. 126, and what is beyond 1,000, are left out: how many there are.");
        OverFirst x = new OverFirst();
        due("none", x.feed(0, 0, 0), 0);
        due("24", x.feed(0x746F776E20322033L, 0x3B6368696C643B72L, 0x756E20343B202020L), 24);
        due("town 2 3;child;run 4;", x.town(), 0);
        due("over", x.count(0), 2);
        due("on", x.count(1), 3);
        due("the lowest byte of each", x.feed(0x74, 0x6F, 0x77), 3);
        due("behind them", x.feed(0x6E2031, 0x2031, 0x3B), 9);
        due("town 1 1;", x.town(), 0);
        due("left out between", x.feed(0x7400_6F01_7702_6EFFL, 0x8031_7F20_1F31_093BL, -1), 8);
        due("town1 1;", x.town(), 0);
        due("all ones", x.feed(-1, -1, -1), 0);
        due("the highest bit alone", x.feed(Long.MIN_VALUE, Long.MIN_VALUE, Long.MIN_VALUE), 0);
        due("the greatest", x.feed(Long.MAX_VALUE, 0, 0), 0);
        for (int i = 1; i <= 41; i++) {
            due("24 more", x.feed(0x2020202020202020L, 0x2020202020202020L, 0x2020202020202020L), 24 * i);
        }
        due("16 more", x.feed(0x7E7E7E7E7E7E7E7EL, 0x7E7E7E7E7E7E7E7EL, 0x2121212121212121L), 1000);
        due("full", x.feed(0x2020202020202020L, 1, 2), 1000);
        due("full, others", x.feed(0, 0, 0), 1000);
        due("count", x.count(14), 1000);
        due("read to the 984th", x.town(), 1 + 16 * 984);
        due("empty", x.feed(0, 0, 0), 0);
        due("a byte of each", x.feed(10, 32, 126), 3);
        due("31 and 127 are none", x.feed(31, 127, 9), 3);
    }

    private void town() {
        doc.says(3, "The TAPE is read as a TOWN: 0, or its FAULT (all stays then).");
        OverFirst x = made(TOWN);
        due("the empty TAPE", x.town(), 1);
        x.go(0, true);
        x.look();
        x.tried(0, 1, true, 7);
        x.was(1, 0, 2);
        x.mark(2, false);
        due("a WALK", Check.walk(x, "over 0;over 5;"), 0);
        String before = all(x);
        due("judged", x.judged(), -1);
        long does = x.does(0, 1, 0);
        for (String text : new String[] {"", "town", "town 3 4", "town 7 4;", "town 3 4;light 0 0 clock round 5 over 0 for 6;", "town 1 1;walk 1;walk 1;",
            "town 2 2;child;rule z 1;rule z 2;", "town 2 2;bar 0 0 over;bar 0 0 over;", "town 6 9;rule a (((((1)))));", "walk 5;"}) {
            due("a FAULT in " + text, Check.town(x, text) != 0, true);
            same("a FAULT in " + text, x, before);
            due("the lights stay", x.light(0, 0, 1) * 100 + x.light(0, 0, 3), 1004);
            due("the bars stay", x.light(2, 1, 5) * 10 + x.light(0, 0, 5), 30);
            due("the rules stay", x.mean(4, 0, 3, 0), 10000);
            due("what was TRIED stays", x.does(0, 1, 0), does);
            due("the WALK stays", x.judged(), -1);
            due("what he WAS at stays", x.fits(0), 0);
            due("the KNOWN light stays", x.light(1, 0, 4), 1);
        }
        due("and it can be undone", x.undo(), true);
        due("and the MARK is there", x.mark(2, true), true);
        due("without a FAULT", Check.town(x, "town 6 9;"), 0);
    }

    private void walk() {
        doc.says(4, "The TAPE is read as a WALK, likewise.");
        OverFirst x = made(TOWN);
        due("the empty TAPE: no lines", x.walk(), 0);
        due("a WALK", Check.walk(x, "over 0;over 5;"), 0);
        x.go(0, true);
        String before = all(x);
        for (String text : new String[] {"over", "over 1", "over 1;on", "over 0;over 5;over 10;", "up 1;", "over 10000;", "town 1 1;", "over 0;over 5;on 9;on 9;"}) {
            due("a FAULT in " + text, Check.walk(x, text) != 0, true);
            same("a FAULT in " + text, x, before);
            due("the WALK stays", x.judged(), -1);
        }
        due("barred", Check.walk(x, "over 0;over 5;on 9;on 9;"), 2 + 16 * 19);
        due("another one", Check.walk(x, "on 0;"), 0);
        due("judged", x.judged(), 0);
        due("lines", x.count(4), 1);
        due("as a TOWN it is none", Check.town(x, "on 0;"), 1);
    }

    private void light() {
        doc.says(5, "Of a CORNER's light, what 0: its KIND (0 clock, 1 hidden, 2 button, 3 police), 1: round, 2: over, 3: for, 4: 1 a hidden one that is KNOWN, else 0;"
            + " 5: bars (1 over, 2 on, 3 both); NONE: others, no light (but 5).");
        OverFirst x = made(TOWN);
        int[][] dues = {{0, 0, 0, 10, 0, 4, 0, 0}, {1, 0, 1, 4, 1, 2, 0, 0}, {0, 1, 2, 9, 6, 9, 0, 0}, {1, 1, 3, 1, 0, 0, 0, 0}, {2, 0, -1, -1, -1, -1, -1, 0},
            {2, 1, -1, -1, -1, -1, -1, 3}, {1, 2, -1, -1, -1, -1, -1, 2}, {2, 3, -1, -1, -1, -1, -1, 0}};
        for (int[] d : dues) {
            for (int what = 0; what <= 5; what++) {
                due("light(" + d[0] + ", " + d[1] + ", " + what + ")", x.light(d[0], d[1], what), d[2 + what]);
            }
            for (int what : new int[] {MIN, -2, -1, 6, 7, MAX}) {
                due("light(" + d[0] + ", " + d[1] + ", " + what + ")", x.light(d[0], d[1], what), -1);
            }
        }
        for (int[] c : NO_CORNERS) {
            for (int what = -1; what <= 6; what++) {
                due("no CORNER " + c[0] + " " + c[1] + ", what " + what, x.light(c[0], c[1], what), -1);
            }
        }
        due("over alone", made("town 1 1;bar 0 0 over;").light(0, 0, 5), 1);
        x.go(0, false);
        x.look();
        due("KNOWN", x.light(1, 0, 4), 1);
        due("a clock isn't KNOWN", x.light(0, 0, 4), 0);
        x.undo();
        due("KNOWN no more", x.light(1, 0, 4), 0);
    }

    private interface ByWay {
        int ask(OverFirst x, int over, int on, int way, int second);
    }

    /** What green and until refuse alike. */
    private void refusedByWay(ByWay call) {
        OverFirst x = made(TOWN);
        for (int[] c : NO_CORNERS) {
            due("no CORNER " + c[0] + " " + c[1], call.ask(x, c[0], c[1], 0, 0), -1);
            due("no CORNER " + c[0] + " " + c[1], call.ask(x, c[0], c[1], 1, 0), -1);
        }
        for (int way : new int[] {MIN, -1, 2, 3, 32, MAX}) {
            due("no WAY " + way, call.ask(x, 0, 0, way, 0), -1);
        }
        for (int second : NO_SECONDS) {
            due("no second " + second, call.ask(x, 0, 0, 0, second), -1);
            due("no second " + second, call.ask(x, 1, 1, 1, second), -1);
        }
        for (int second : new int[] {0, LAST}) {
            due("a second " + second, call.ask(x, 0, 0, 0, second) != -1, true);
            due("a second " + second, call.ask(x, 0, 1, 0, second) != -1, true);
        }
        due("at the last one over", call.ask(x, 2, 0, 0, 0), -1);
        due("at the last one on", call.ask(x, 0, 3, 1, 0), -1);
        due("at HOME over", call.ask(x, 2, 3, 0, 0), -1);
        due("at HOME on", call.ask(x, 2, 3, 1, 0), -1);
        due("barred on", call.ask(x, 1, 2, 1, 0), -1);
        due("not barred over", call.ask(x, 1, 2, 0, 0) != -1, true);
        OverFirst never = made("town 2 2;light 0 0 clock round 5 over 2 for 0;light 1 0 hidden round 5 over 2 for 5;");
        due("over is never green", call.ask(never, 0, 0, 0, 0), -1);
        due("on is never green", call.ask(never, 1, 0, 1, 0), -1);
    }

    private void green() {
        doc.says(6, "GREEN for a WAY (0 over, 1 on) at a second (here and below 0 to 1,000,000), as told: 1 or 0 (a button: 0 over, 1 on); NONE: others, one can't go there.");
        refusedByWay((x, over, on, way, second) -> x.green(over, on, way, second));
        OverFirst x = made("town 2 2;light 0 0 button round 9 over 0 for 0;light 0 1 hidden round 7 over 6 for 1;light 1 0 clock round 7 over 0 for 6;bar 0 1 on;");
        for (int second : new int[] {0, 1, 6, 7, LAST}) {
            due("a button, over", x.green(0, 0, 0, second), 0);
            due("a button, on", x.green(0, 0, 1, second), 1);
            due("a hidden one, over", x.green(0, 1, 0, second), second % 7 == 6 ? 1 : 0);
            due("a clock, on", x.green(1, 0, 1, second), second % 7 == 6 ? 1 : 0);
        }
        due("a button that is barred", made("town 2 2;light 0 0 button round 9 over 0 for 0;bar 0 0 on;").green(0, 0, 1, 0), -1);
        due("a button at the last ones", made("town 1 2;light 0 0 button round 9 over 0 for 0;").green(0, 0, 0, 0), -1);
    }

    private void until() {
        doc.says(7, "WAIT; NONE: likewise.");
        refusedByWay((x, over, on, way, second) -> x.until(over, on, way, second));
        OverFirst x = made(TOWN);
        due("GREEN", x.until(0, 0, 0, 3), 0);
        due("a second later", x.until(0, 0, 0, 4), 6);
        due("over into the next round", x.until(0, 0, 0, 9), 1);
        due("at the last second: 1,000,000 is 0 of its round", x.until(0, 0, 1, LAST), 4);
        due("ahead of its over", x.until(1, 0, 0, 0), 1);
        due("a button", x.until(0, 1, 0, 0), 6);
        due("a button, on", x.until(0, 1, 1, 0), 0);
        due("police", x.until(1, 1, 0, 0), 0);
        x.go(0, false);
        x.look();
        due("KNOWN or not, as told", x.until(1, 0, 0, 0), 1);
    }

    private void go() {
        doc.says(8, "GO (run: RUN): the second then; NONE: others, one can't.");
        OverFirst x = made(TOWN);
        String before = all(x);
        for (int way : new int[] {MIN, -1, 2, 3, MAX}) {
            due("no WAY " + way, x.go(way, false), -1);
            due("no WAY " + way, x.go(way, true), -1);
        }
        same("no WAY", x, before);
        due("GO", x.go(1, false), 9);
        due("RUN over by the button", x.go(0, true), 17);
        where("RUN", x, 1, 1, 17);
        due("GO", x.go(1, false), 22);
        before = all(x);
        due("barred", x.go(1, false), -1);
        due("barred, RUN", x.go(1, true), -1);
        same("barred", x, before);
        due("RUN", x.go(0, true), 24);
        before = all(x);
        due("beyond", x.go(0, false), -1);
        due("no RUN left", x.go(1, true), -1);
        same("no RUN left", x, before);
        due("GO HOME", x.go(1, false), 29);
        before = all(x);
        for (int way = 0; way < 2; way++) {
            due("at HOME", x.go(way, false), -1);
            due("at HOME", x.go(way, true), -1);
        }
        same("at HOME", x, before);
        OverFirst never = made("town 2 2;light 0 0 hidden round 3 over 0 for 0;");
        due("never green", never.go(0, false), -1);
        due("green always", never.go(1, false), 10);
    }

    private void stay() {
        doc.says(9, "STAY (1 to 1,000 seconds): the second then; NONE: others.");
        OverFirst x = made(TOWN);
        String before = all(x);
        for (int seconds : new int[] {MIN, -1000, -1, 0, 1001, 9999, MAX}) {
            due("STAY " + seconds, x.stay(seconds), -1);
        }
        same("STAY of others", x, before);
        due("STAY 1", x.stay(1), 1);
        due("STAY 1,000", x.stay(1000), 1001);
        for (int i = 1; i <= 300; i++) {
            due("STAY 1,000", x.stay(1000), 1001 + 1000 * i);
        }
        due("GO from there: 1 of its round, 3 to wait", x.go(1, false), 301009);
    }

    private void look() {
        doc.says(10, "LOOK: true; false: no hidden light, it is KNOWN.");
        OverFirst x = made(TOWN);
        String before = all(x);
        due("a clock", x.look(), false);
        same("LOOK at a clock", x, before);
        x.go(0, false);
        due("a hidden one", x.look(), true);
        before = all(x);
        due("it is KNOWN", x.look(), false);
        same("LOOK again", x, before);
        x.go(1, false);
        due("police", x.look(), false);
        x.go(1, false);
        due("no light", x.look(), false);
        OverFirst button = made("town 1 2;light 0 0 button round 9 over 0 for 0;light 0 1 hidden round 9 over 0 for 0;");
        due("a button", button.look(), false);
        button.go(1, false);
        due("a hidden one at HOME", button.look(), true);
        due("none is hidden", button.count(9), 0);
        button.undo();
        due("LOOK anew", button.look(), true);
        due("new object", new OverFirst().look(), false);
    }

    private void undo() {
        doc.says(11, "UNDO: true; false: nothing can be.");
        OverFirst x = made(TOWN);
        due("nothing yet", x.undo(), false);
        x.go(1, false);
        due("GO", x.undo(), true);
        where("UNDO", x, 0, 0, 0);
        due("nothing more", x.undo(), false);
        x.go(3, false);
        x.stay(0);
        x.look();
        due("what was refused is nothing", x.undo(), false);
        x.stay(1);
        x.mark(0, false);
        x.mark(0, true);
        due("gone back to a MARK", x.undo(), false);
        x.stay(1);
        due("from there", x.undo(), true);
        where("UNDO", x, 0, 0, 1);
        x.tried(0, 1, true, 1);
        x.was(0, 0, 0);
        due("TRIED, WAS are nothing that can be", x.undo(), false);
        due("nor are they undone", x.count(10) + x.count(11), 2);
        x.stay(1);
        Check.walk(x, "on 0;");
        due("a WALK leaves what can be", x.count(13), 1);
        due("a fault leaves it", Check.town(x, "") != 0 && x.count(13) == 1, true);
        due("UNDO", x.undo(), true);
        due("the WALK stays", x.count(4), 1);
        for (int i = 0; i < 16; i++) {
            x.stay(1);
        }
        for (int i = 0; i < 16; i++) {
            due("16", x.undo(), true);
        }
        due("a 17th", x.undo(), false);
    }

    private void judged() {
        doc.says(12, "JUDGED; NONE: all is so.");
        OverFirst x = made(TOWN);
        due("no WALK", x.judged(), -1);
        Check.walk(x, "");
        due("no line", x.judged(), -1);
        Check.walk(x, "over 0;over 5;on 10;");
        due("all is so", x.judged(), -1);
        Check.walk(x, "over 0;over 4;on 10;");
        due("line 1", x.judged(), 1);
        Check.walk(x, "over 4;over 4;on 10;");
        due("line 0", x.judged(), 0);
        OverFirst far = made("town 6 9;walk 1;");
        Check.walk(far, "on0;on1;on2;on3;on4;on5;on6;on7;over8;over9;over10;over11;over12;");
        due("13 lines", far.judged(), -1);
        Check.walk(far, "on0;on1;on2;on3;on4;on5;on6;on7;over8;over9;over10;over11;over11;");
        due("the 13th", far.judged(), 12);
    }

    private void soonest() {
        doc.says(13, "SOONEST, what NONE: the second; i: the i-th WAY (0 over, 1 on); -2: others, it can't be, beyond.");
        OverFirst x = made(TOWN);
        for (int[] c : NO_CORNERS) {
            due("no CORNER", x.soonest(c[0], c[1], 0, -1), -2);
            due("no CORNER", x.soonest(c[0], c[1], 0, 0), -2);
        }
        for (int second : NO_SECONDS) {
            due("no second " + second, x.soonest(0, 0, second, -1), -2);
            due("no second " + second, x.soonest(0, 0, second, 0), -2);
            due("no second " + second + " at HOME", x.soonest(2, 3, second, -1), -2);
        }
        for (int what : new int[] {MIN, -3, -2, 5, 13, 14, 64, MAX}) {
            due("no what " + what, x.soonest(0, 0, 0, what), -2);
        }
        due("the second NONE", x.soonest(0, 0, 0, OverFirst.NONE), 27);
        int[] ways = {0, 1, 1, 0, 1};
        for (int i = 0; i < 5; i++) {
            due("WAY " + i, x.soonest(0, 0, 0, i), ways[i]);
        }
        due("at the last second", x.soonest(0, 0, LAST, -1), LAST + 27);
        due("HOME", x.soonest(2, 3, LAST, -1), LAST);
        due("HOME, beyond", x.soonest(2, 3, 0, 0), -2);
        due("a CORNER from which it can't be", x.soonest(2, 1, 0, -1), -2);
        due("a CORNER from which it can't be, WAY", x.soonest(2, 1, 0, 0), -2);
        OverFirst far = made("town 6 9;walk 1;");
        due("13 WAYS", far.soonest(0, 0, 0, 12), 1);
        due("a 14th", far.soonest(0, 0, 0, 13), -2);
        due("from nearer", far.soonest(5, 7, 0, 0), 1);
        due("beyond from nearer", far.soonest(5, 7, 0, 1), -2);
    }

    private interface ByGoer {
        int ask(OverFirst x, int goer, int over, int on, int second);
    }

    /** What mean and worst refuse alike. */
    private void refusedByGoer(ByGoer call) {
        OverFirst x = made(TOWN);
        for (int goer : new int[] {MIN, -1, 6, 7, 8, 32, MAX}) {
            due("no GOER " + goer, call.ask(x, goer, 0, 3, 0), -1);
            due("no GOER " + goer + " at HOME", call.ask(x, goer, 2, 3, 0), -1);
        }
        for (int goer = 0; goer < 6; goer++) {
            for (int[] c : NO_CORNERS) {
                due("no CORNER", call.ask(x, goer, c[0], c[1], 0), -1);
            }
            for (int second : NO_SECONDS) {
                due("no second " + second, call.ask(x, goer, 0, 3, second), -1);
                due("no second " + second + " at HOME", call.ask(x, goer, 2, 3, second), -1);
            }
            due("HOME", call.ask(x, goer, 2, 3, LAST), 0);
            due("in the last row", call.ask(x, goer, 0, 3, LAST) > 0, true);
            due("between bars", call.ask(x, goer, 2, 1, 0), -1);
        }
        due("over first: to 2 1, where he is left", call.ask(x, 0, 1, 1, 0), -1);
        due("on first: to 1 2, then over", call.ask(x, 1, 1, 1, 0) > 0, true);
        due("rule 0: over, left", call.ask(x, 4, 1, 1, 0), -1);
        due("rule 1: on", call.ask(x, 5, 1, 1, 0) > 0, true);
        due("without rules", call.ask(made("town 2 2;"), 4, 0, 0, 0), -1);
        OverFirst may = made("town 2 2;bar 1 0 on;light 0 0 hidden round 60 over 7 for 1;");
        due("whichever: at one second of 60 he is left", call.ask(may, 2, 0, 0, 0), -1);
        due("on first is not", call.ask(may, 1, 0, 0, 0) > 0, true);
        may.look();
        due("KNOWN: left at second 7", call.ask(may, 2, 0, 0, 7), -1);
        due("KNOWN: not at 8", call.ask(may, 2, 0, 0, 8) > 0, true);
        due("KNOWN: nor at 6", call.ask(may, 2, 0, 0, 6) > 0, true);
    }

    private void mean() {
        doc.says(14, "MEAN of a GOER from a CORNER at a second; NONE: others, he may never be HOME.");
        refusedByGoer((x, goer, over, on, second) -> x.mean(goer, over, on, second));
        OverFirst x = made("town 6 9;walk 30;");
        due("the longest streets", x.mean(3, 0, 0, LAST), 390000);
        x = made("town 1 2;walk 5;light 0 0 clock round 10 over 0 for 4;");
        due("at 0", x.mean(3, 0, 0, 0), 9000);
        due("at 1,000,000", x.mean(3, 0, 0, LAST), 9000);
        due("at 999,999", x.mean(3, 0, 0, LAST - 1), 5000);
    }

    private void worst() {
        doc.says(15, "WORST, likewise.");
        refusedByGoer((x, goer, over, on, second) -> x.worst(goer, over, on, second));
        OverFirst x = made("town 1 2;walk 5;light 0 0 hidden round 60 over 30 for 59;");
        due("the most", x.worst(3, 0, 0, 0), 64);
        due("whenever", x.worst(3, 0, 0, LAST), 64);
        x.look();
        due("KNOWN: at 29 it is GREEN", x.worst(3, 0, 0, 29), 5);
        due("KNOWN: at 30 it is the most", x.worst(3, 0, 0, 30), 64);
    }

    private void choice() {
        doc.says(16, "CHOICE (0 over, 1 on) with a hidden light at a second of its round (of others it does not matter); NONE: others, HOME, he may never be there.");
        OverFirst x = made(TOWN);
        for (int[] c : NO_CORNERS) {
            due("no CORNER", x.choice(c[0], c[1], 0, 0), -1);
        }
        for (int second : NO_SECONDS) {
            due("no second " + second, x.choice(0, 0, second, 0), -1);
            due("no second " + second, x.choice(1, 0, second, 0), -1);
        }
        for (int at : new int[] {MIN, -1, 4, 5, MAX}) {
            due("a hidden one at " + at, x.choice(1, 0, 0, at), -1);
            due("a clock at " + at, x.choice(0, 0, 0, at), 0);
            due("a button at " + at, x.choice(0, 1, 0, at), 1);
            due("police at " + at, x.choice(1, 1, 0, at), 1);
            due("no light at " + at, x.choice(1, 2, 0, at), 0);
            due("HOME at " + at, x.choice(2, 3, 0, at), -1);
            due("left without a way at " + at, x.choice(2, 1, 0, at), -1);
        }
        for (int at = 0; at < 4; at++) {
            due("over would leave him without a way: on at " + at, x.choice(1, 0, 0, at), 1);
        }
        OverFirst one = made("town 2 2;light 0 0 hidden round 1 over 0 for 1;");
        due("a round of 1, at 0", one.choice(0, 0, 0, 0), 0);
        due("a round of 1, at 1", one.choice(0, 0, 0, 1), -1);
        OverFirst home = made("town 1 1;light 0 0 hidden round 3 over 0 for 1;");
        due("a hidden one at HOME", home.choice(0, 0, 0, 0), -1);
        x.go(0, false);
        x.look();
        for (int at : new int[] {MIN, -1, 4, MAX}) {
            due("KNOWN: it does not matter", x.choice(1, 0, 0, at), 1);
        }
    }

    private void gap() {
        doc.says(17, "GAP; NONE: others, one of both has no MEAN.");
        OverFirst x = made(TOWN);
        for (int[] c : NO_CORNERS) {
            due("no CORNER", x.gap(c[0], c[1], 0), -1);
        }
        for (int second : NO_SECONDS) {
            due("no second " + second, x.gap(0, 3, second), -1);
        }
        due("HOME", x.gap(2, 3, LAST), 0);
        due("whichever has none: he goes over by police", x.gap(1, 1, 0), -1);
        due("the best has one there", x.mean(3, 1, 1, 0), 15000);
        due("neither has", x.gap(2, 1, 0), -1);
        due("both have", x.gap(1, 2, 0), 0);
        OverFirst some = made("town 2 2;walk 5;light 0 0 clock round 20 over 0 for 10;light 0 1 button round 60 over 59 for 0;");
        due("at 19: on, 59 there, against 1 to wait", some.gap(0, 0, 19), 69000 - 11000);
        due("at the last second", some.gap(0, 0, LAST), 0);
    }

    private void watch() {
        doc.says(18, "WATCH; NONE: others, no such light, no MEAN.");
        OverFirst x = made(TOWN);
        for (int[] c : NO_CORNERS) {
            due("no CORNER", x.watch(c[0], c[1], 0), -1);
        }
        for (int second : NO_SECONDS) {
            due("no second " + second, x.watch(1, 0, second), -1);
        }
        due("a hidden one", x.watch(1, 0, 0) >= 0, true);
        due("at the last second", x.watch(1, 0, LAST) >= 0, true);
        due("a clock", x.watch(0, 0, 0), -1);
        due("a button", x.watch(0, 1, 0), -1);
        due("police", x.watch(1, 1, 0), -1);
        due("no light", x.watch(2, 0, 0), -1);
        due("HOME without a light", x.watch(2, 3, 0), -1);
        x.go(0, false);
        x.look();
        due("KNOWN", x.watch(1, 0, 0), -1);
        x.undo();
        due("not KNOWN again", x.watch(1, 0, 0) >= 0, true);
        due("no MEAN", made("town 1 3;bar 0 1 on;light 0 0 hidden round 3 over 0 for 1;").watch(0, 0, 0), -1);
        due("one that can't be come to", made("town 2 2;bar 0 0 over;light 1 0 hidden round 3 over 0 for 1;").watch(1, 0, 0), 0);
        due("HOME's", made("town 2 2;light 1 1 hidden round 3 over 0 for 1;").watch(1, 1, 0), 0);
        due("a round of 1", made("town 1 2;light 0 0 hidden round 1 over 0 for 0;").watch(0, 0, 0), 0);
    }

    private void latest() {
        doc.says(19, "LATEST; NONE: others, it can't be.");
        OverFirst x = made(TOWN);
        for (int[] c : NO_CORNERS) {
            due("no CORNER", x.latest(c[0], c[1], 0), -1);
        }
        for (int second : NO_SECONDS) {
            due("no second " + second, x.latest(0, 0, second), -1);
            due("no second " + second + " at HOME", x.latest(2, 3, second), -1);
        }
        due("it can't be", x.latest(2, 1, 0), -1);
        due("HOME at 0", x.latest(2, 3, 0), 0);
        due("HOME at the last second", x.latest(2, 3, LAST), LAST);
        due("no light there", x.latest(1, 2, LAST), LAST);
        due("over till 2: at 1 0 on is green from 7 on", x.latest(0, 0, 0), 2);
        due("at the last second", x.latest(0, 0, LAST), LAST + 2);
    }

    private void turning() {
        doc.says(20, "TURNING so often (0 to 12) at most; NONE: others, it can't be.");
        OverFirst x = made("town 2 2;walk 5;");
        for (int often : new int[] {MIN, -1, 13, 14, MAX}) {
            due("so often " + often, x.turning(0, often), -1);
            due("so often " + often + " at HOME", new OverFirst().turning(0, often), -1);
        }
        for (int often = 1; often <= 12; often++) {
            due("so often " + often, x.turning(0, often), 10);
        }
        due("0", x.turning(0, 0), -1);
        due("0 at HOME", new OverFirst().turning(0, 0), 0);
        for (int second : NO_SECONDS) {
            due("no second " + second, x.turning(second, 1), -1);
        }
        due("the last second", x.turning(LAST, 1), LAST + 10);
        due("it can't be", made("town 2 2;bar 0 1 over;bar 1 0 on;").turning(0, 12), -1);
        due("never green", made("town 1 2;light 0 0 clock round 3 over 0 for 3;").turning(0, 12), -1);
    }

    private void worthiest() {
        doc.says(21, "WORTHIEST from a second, as 8 * y + x; NONE: others, no such light, no MEAN.");
        OverFirst x = made(TOWN);
        due("the one there is", x.worthiest(0), 1);
        due("at the last second", x.worthiest(LAST), 1);
        for (int second : NO_SECONDS) {
            due("no second " + second, x.worthiest(second), -1);
        }
        x.go(0, false);
        x.look();
        due("it is KNOWN", x.worthiest(0), -1);
        due("none hidden", made("town 1 2;light 0 0 clock round 3 over 0 for 1;").worthiest(0), -1);
        due("no light", new OverFirst().worthiest(0), -1);
        due("no MEAN", made("town 1 3;bar 0 1 on;light 0 0 hidden round 3 over 0 for 1;").worthiest(0), -1);
        due("at 5 8", made("town 6 9;light 5 8 hidden round 3 over 0 for 1;").worthiest(0), 69);
        due("at 0 8", made("town 6 9;light 0 8 hidden round 3 over 0 for 1;").worthiest(0), 64);
        due("at 5 0", made("town 6 9;light 5 0 hidden round 3 over 0 for 1;").worthiest(0), 5);
    }

    private void odds() {
        doc.says(22, "ODDS; NONE: others, he may never be HOME.");
        OverFirst x = made(TOWN);
        for (int goer : new int[] {MIN, -1, 6, 7, MAX}) {
            due("no GOER " + goer, x.odds(goer, 0, LAST), -1);
        }
        for (int second : NO_SECONDS) {
            due("no second " + second, x.odds(3, second, LAST), -1);
            due("by no second " + second, x.odds(3, 0, second), -1);
        }
        due("sure", x.odds(3, 0, LAST), 1000000);
        due("by 0", x.odds(3, 0, 0), 0);
        due("by a second ahead", x.odds(3, LAST, 0), 0);
        due("never HOME: over first", x.odds(0, 0, LAST), -1);
        due("never HOME, by 0", x.odds(0, 0, 0), -1);
        due("rule 0", x.odds(4, 0, LAST), -1);
        due("rule 1: on, the button on, on, over", x.odds(5, 4, 29), 1000000);
        due("rule 1, sooner", x.odds(5, 4, 28), 0);
        OverFirst may = made("town 2 2;bar 1 0 on;light 0 0 hidden round 60 over 7 for 1;");
        due("he may be left at one second of 60", may.odds(2, 0, LAST), -1);
    }

    private void pace() {
        doc.says(23, "PACE, what 0: CORNERS one stands at, 1: when one is there; 2 + i: seconds of the i-th street; NONE: others, no WALK, it can't be.");
        OverFirst x = made(TOWN);
        due("no WALK", x.pace(0, 0), -1);
        due("no WALK", x.pace(0, 1), -1);
        due("no WALK", x.pace(0, 2), -1);
        Check.walk(x, "");
        due("a WALK of no lines is none", x.pace(0, 0), -1);
        Check.walk(x, "on 4;on 9;");
        for (int second : NO_SECONDS) {
            for (int what = 0; what < 4; what++) {
                due("no second " + second, x.pace(second, what), -1);
            }
        }
        for (int what : new int[] {MIN, -2, -1, 4, 5, 14, 15, MAX}) {
            due("no what " + what, x.pace(0, what), -1);
        }
        due("stands at 0 0", x.pace(0, 0), 1);
        due("there", x.pace(0, 1), 8);
        due("street 0", x.pace(0, 2), 2);
        due("street 1", x.pace(0, 3), 2);
        due("at the last second", x.pace(LAST, 1), LAST + 8);
        due("a fault leaves the WALK", Check.walk(x, "on") != 0 && x.pace(0, 1) == 8, true);
        due("another WALK", Check.walk(x, "on 4;") == 0 && x.pace(0, 1) == 6, true);
        due("its street 1 is none", x.pace(0, 3), -1);
        due("a new town: no WALK", Check.town(x, TOWN) == 0 && x.pace(0, 1) == -1, true);
        OverFirst far = made("town 6 9;walk 1;");
        Check.walk(far, "on0;on0;on0;on0;on0;on0;on0;on0;over0;over0;over0;over0;over0;");
        due("13 streets", far.pace(0, 14), 1);
        due("a 14th", far.pace(0, 15), -1);
        due("when one is there", far.pace(7, 1), 20);
        OverFirst never = made("town 1 2;light 0 0 hidden round 9 over 0 for 9;");
        Check.walk(never, "on 0;");
        for (int what = 0; what < 3; what++) {
            due("it can't be", never.pace(0, what), -1);
        }
    }

    private void tried() {
        doc.says(24, "TRIED at a CORNER's button: true; false: others, no button there, 10 are TRIED.");
        OverFirst x = made(TOWN);
        String before = all(x);
        for (int[] c : NO_CORNERS) {
            due("no CORNER", x.tried(c[0], c[1], true, 0), false);
        }
        for (int waited : new int[] {MIN, -1, 60, 61, MAX}) {
            due("waited " + waited, x.tried(0, 1, true, waited), false);
            due("waited " + waited, x.tried(0, 1, false, waited), false);
        }
        due("a clock", x.tried(0, 0, true, 0), false);
        due("a hidden one", x.tried(1, 0, true, 0), false);
        due("police", x.tried(1, 1, true, 0), false);
        due("no light", x.tried(2, 0, true, 0), false);
        same("what is refused", x, before);
        due("waited 0", x.tried(0, 1, true, 0), true);
        due("waited 59", x.tried(0, 1, true, 59), true);
        for (int i = 2; i < 10; i++) {
            due("TRIED", x.tried(0, 1, false, 9), true);
        }
        due("10 are TRIED", x.tried(0, 1, true, 0), false);
        due("10 are TRIED", x.count(10), 10);
        x.mark(0, false);
        Check.town(x, TOWN);
        due("a new town", x.tried(0, 1, true, 0), true);
        x.mark(1, false);
        x.tried(0, 1, true, 0);
        x.mark(1, true);
        due("as on the MARK", x.count(10), 1);
    }

    private void does() {
        doc.says(25, "DOES of a CORNER's button (by what is TRIED there), what 0: above, 1: below, in lowest terms; NONE: others, it can't be either way.");
        OverFirst x = made(TOWN);
        for (int[] c : NO_CORNERS) {
            due("no CORNER", x.does(c[0], c[1], 0), -1);
        }
        for (int what : new int[] {MIN, -1, 2, 3, MAX}) {
            due("no what " + what, x.does(0, 1, what), -1);
        }
        due("a clock", x.does(0, 0, 0), -1);
        due("a hidden one", x.does(1, 0, 0), -1);
        due("police", x.does(1, 1, 0), -1);
        due("no light", x.does(2, 0, 0), -1);
        due("nothing TRIED, above", x.does(0, 1, 0), 1);
        due("nothing TRIED, below", x.does(0, 1, 1), 2);
        x.tried(0, 1, true, 6);
        due("9 of 9 + 7, above", x.does(0, 1, 0), 9);
        due("9 of 9 + 7, below", x.does(0, 1, 1), 16);
        x.tried(0, 1, true, 7);
        due("never by its over: 0", x.does(0, 1, 0), 0);
        due("in lowest terms: of 1", x.does(0, 1, 1), 1);
        x.tried(0, 1, true, 9);
        due("not either way", x.does(0, 1, 0), -1);
        due("not either way", x.does(0, 1, 1), -1);
        OverFirst low = made("town 2 1;light 0 0 button round 60 over 29 for 0;light 1 0 button round 6 over 2 for 0;");
        low.tried(0, 0, true, 29);
        due("60 of 60 + 30 is 2 of 3, above", low.does(0, 0, 0), 2);
        due("60 of 60 + 30 is 2 of 3, below", low.does(0, 0, 1), 3);
        due("the other one by what is TRIED there", low.does(1, 0, 1), 2);
        for (int i = 1; i < 10; i++) {
            low.tried(0, 0, true, 0);
        }
        due("1024 of 1025, above", low.does(0, 0, 0), 1024);
        due("1024 of 1025, below", low.does(0, 0, 1), 1025);
        OverFirst most = made("town 1 1;light 0 0 button round 60 over 59 for 0;");
        for (int i = 0; i < 10; i++) {
            most.tried(0, 0, true, 59);
        }
        due("60 to the 10th both ways, above", most.does(0, 0, 0), 1);
        due("60 to the 10th both ways, below", most.does(0, 0, 1), 2);
    }

    private void wave() {
        doc.says(26, "WAVE (both: BOTH) of so many lights from a CORNER on, what 0: how many seconds; i: the beginning of the i-th one behind the first (1 ..); NONE: others, not of one round, none there.");
        OverFirst x = made("town 3 4;walk 3;light 0 0 clock round 10 over 0 for 6;light 0 1 hidden round 10 over 0 for 6;light 0 2 clock round 10 over 0 for 6;"
            + "light 0 3 clock round 20 over 0 for 6;light 1 0 clock round 9 over 0 for 3;light 1 2 clock round 9 over 0 for 3;light 2 0 button round 9 over 0 for 3;light 2 1 button round 9 over 0 for 3;");
        for (int[] c : NO_CORNERS) {
            due("no CORNER", x.wave(c[0], c[1], 2, false, 0), -1);
            due("no CORNER", x.wave(c[0], c[1], 2, true, 1), -1);
        }
        for (int many : new int[] {MIN, -1, 0, 1, 5, 6, MAX}) {
            due("so many " + many, x.wave(0, 0, many, false, 0), -1);
        }
        for (int what : new int[] {MIN, -1, 2, 3, MAX}) {
            due("no what " + what, x.wave(0, 0, 2, false, what), -1);
        }
        due("what 0", x.wave(0, 0, 3, false, 0), 4);
        due("what 1", x.wave(0, 0, 3, false, 1), 9);
        due("what 2", x.wave(0, 0, 3, false, 2), 2);
        due("what 3", x.wave(0, 0, 3, false, 3), -1);
        due("not of one round: the fourth", x.wave(0, 0, 4, false, 0), -1);
        due("not of one round: two", x.wave(0, 2, 2, false, 0), -1);
        due("none between", x.wave(1, 0, 3, false, 0), -1);
        due("none behind", x.wave(1, 2, 2, false, 0), -1);
        due("none at the first", x.wave(1, 1, 2, false, 0), -1);
        due("buttons", x.wave(2, 0, 2, false, 0), -1);
        due("no light at all", x.wave(2, 2, 2, false, 0), -1);
        due("beyond the last row", x.wave(0, 3, 2, false, 0), -1);
        String before = all(x);
        x.wave(0, 0, 3, true, 0);
        same("a WAVE", x, before);
        due("the lights stay", x.light(0, 1, 2), 0);
    }

    private void rules() {
        doc.says(27, "RULES; NONE: none has a MEAN.");
        due("no rules", new OverFirst().rules(), -1);
        due("none has a MEAN", made("town 1 2;bar 0 0 on;rule a 1;rule b 0;").rules(), -1);
        due("rule 1 of " + TOWN, made(TOWN).rules(), 1);
        due("the first of four", made("town 2 2;rule a 1;rule b 0;rule c 1;rule d 0;").rules(), 0);
        OverFirst x = made("town 2 2;walk 5;light 1 0 hidden round 10 over 0 for 9;light 0 1 button round 60 over 4 for 0;rule a 1;rule b 0;");
        due("over: 4500 on the mean; on: 4", x.rules(), 1);
        x.go(0, false);
        x.look();
        due("KNOWN: at 5, 4 to wait: alike, the first", x.rules(), 0);
        x.undo();
        due("not KNOWN again", x.rules(), 1);
    }

    private void was() {
        doc.says(28, "He WAS at a CORNER at a second (0 to 9999): true; false: others, 8 are told.");
        OverFirst x = made(TOWN);
        String before = all(x);
        for (int[] c : NO_CORNERS) {
            due("no CORNER", x.was(c[0], c[1], 0), false);
        }
        for (int second : new int[] {MIN, -1, 10000, 1000000, MAX}) {
            due("at " + second, x.was(0, 0, second), false);
        }
        same("what is refused", x, before);
        due("at 0", x.was(0, 0, 0), true);
        due("at 9999", x.was(2, 3, 9999), true);
        for (int i = 2; i < 8; i++) {
            due("another", x.was(0, 0, 0), true);
        }
        due("8 are told", x.was(0, 0, 0), false);
        due("8 are told", x.count(11), 8);
        Check.town(x, TOWN);
        due("a new town", x.was(0, 0, 0), true);
        x.mark(0, false);
        x.was(0, 0, 5);
        x.mark(0, true);
        due("as on the MARK", x.count(11), 1);
    }

    private void fits() {
        doc.says(29, "FITS, what 0: how many, 1: the first as bits (the first WAY the lowest, 1 on), 2: CORNERS on all of them (8 bits a row, the first rows: 0 to 7), 3: those of row 8; NONE: others, none (but 0).");
        OverFirst x = made("town 2 9;walk 1;bar 0 0 over;");
        for (int what : new int[] {MIN, -1, 4, 5, MAX}) {
            due("no what " + what, x.fits(what), -1);
        }
        due("how many", x.fits(0), 8);
        due("the first: on, over, on ..", x.fits(1), 0x1FD);
        due("CORNERS of rows 0 to 7", x.fits(2), 0x0101);
        due("CORNERS of row 8", x.fits(3), 2);
        x.was(0, 8, 8);
        due("on to row 8, then over", x.fits(0), 1);
        due("bits", x.fits(1), 0xFF);
        due("rows 0 to 7", x.fits(2), 0x0101010101010101L);
        due("row 8", x.fits(3), 3);
        x.was(0, 8, 9);
        due("none", x.fits(0), 0);
        for (int what = 1; what <= 3; what++) {
            due("none, what " + what, x.fits(what), -1);
        }
        OverFirst eight = made("town 6 8;walk 1;bar 4 7 on;");
        due("HOME in row 7: bit 61", eight.fits(2), 1L | 1L << 61);
        due("no row 8", eight.fits(3), 0);
        due("on alone: 1", made("town 1 2;").fits(1), 1);
        due("over alone: 0", made("town 2 1;").fits(1), 0);
        due("no way: how many", made("town 2 1;bar 0 0 over;").fits(0), 0);
        due("no way: the first", made("town 2 1;bar 0 0 over;").fits(1), -1);
    }

    private void nights() {
        doc.says(30, "NIGHTS, what 0: all seconds, 1: the longest; NONE: others, a GOER who may never be HOME.");
        OverFirst x = made(TOWN);
        for (int many : new int[] {MIN, -1, 0, 31, 32, MAX}) {
            due("so many " + many, x.nights(1, many, 3, 0), -1);
        }
        for (int goer : new int[] {MIN, -1, 6, 7, MAX}) {
            due("no GOER " + goer, x.nights(1, 1, goer, 0), -1);
        }
        for (int what : new int[] {MIN, -1, 2, 3, MAX}) {
            due("no what " + what, x.nights(1, 1, 3, what), -1);
        }
        due("never HOME: over first", x.nights(1, 1, 0, 0), -1);
        due("never HOME: rule 0", x.nights(1, 1, 4, 1), -1);
        for (int many = 1; many <= 30; many++) {
            due("rule 1: 29 a night", x.nights(1, many, 5, 0), 29 * many);
            due("rule 1: the longest", x.nights(1, many, 5, 1), 29);
        }
        for (int seed : new int[] {MIN, -1, 0, 1, MAX}) {
            due("any SEED", x.nights(seed, 30, 5, 0), 870);
        }
        OverFirst may = made("town 2 2;bar 1 0 on;light 0 0 hidden round 60 over 7 for 1;");
        due("he may be left at one second of 60", may.nights(1, 1, 2, 0), -1);
        due("on first is not", may.nights(1, 1, 1, 0) > 0, true);
        due("HOME at once", new OverFirst().nights(1, 30, 3, 0), 0);
        String before = all(x);
        x.nights(1, 30, 3, 0);
        same("NIGHTS", x, before);
    }

    private void mark() {
        doc.says(31, "A MARK is laid (back: gone back to): true; false: none such, nothing is on it (back).");
        OverFirst x = made(TOWN);
        String before = all(x);
        for (int mark : new int[] {MIN, -1, 4, 5, MAX}) {
            due("none such " + mark, x.mark(mark, false), false);
            due("none such " + mark, x.mark(mark, true), false);
        }
        for (int mark = 0; mark < 4; mark++) {
            due("nothing is on it", x.mark(mark, true), false);
        }
        same("what is refused", x, before);
        x.stay(5);
        due("laid", x.mark(0, false), true);
        due("nothing is on 1", x.mark(1, true), false);
        due("what is refused leaves what can be undone", x.count(13), 1);
        x.stay(5);
        due("laid", x.mark(3, false), true);
        due("laid again", x.mark(3, false), true);
        due("back to 0", x.mark(0, true), true);
        where("mark 0", x, 0, 0, 5);
        due("back to 0 again", x.mark(0, true), true);
        due("back to 3", x.mark(3, true), true);
        where("mark 3", x, 0, 0, 10);
        x.stay(1);
        due("laid anew", x.mark(0, false), true);
        x.stay(1);
        due("back to 0", x.mark(0, true), true);
        where("mark 0 anew", x, 0, 0, 11);
        Check.walk(x, "on 0;");
        x.mark(0, true);
        due("the WALK is not on it", x.count(4), 1);
        x.feed(0x20, 0, 0);
        x.mark(0, true);
        due("nor the TAPE", x.count(14), 1);
    }

    private void count() {
        doc.says(32, "What 0: CORNERS over, 1: on, 2: lights, 3: rules, 4: lines of the WALK, 5: where one is over, 6: on, 7: the second, 8: runs yet (0 with a child),"
            + " 9: hidden lights that are not KNOWN, 10: TRIED, 11: where he WAS, 12: the least common multiple, 13: what can be undone, 14: signs on the TAPE. NONE for another what.");
        OverFirst x = made(TOWN);
        for (int what : new int[] {MIN, -2, -1, 15, 16, 30, MAX}) {
            due("another what " + what, x.count(what), -1);
        }
        due("all", all(x).equals("3 4 4 2 0 0 0 0 2 1 0 0 20 0 0 "), true);
        Check.walk(x, "over 0;over 5;on 10;");
        x.go(1, true);
        x.tried(0, 1, false, 3);
        x.was(0, 0, 0);
        x.was(0, 0, 0);
        x.feed(0x2020, 0, 0);
        due("all, later: " + all(x), all(x).equals("3 4 4 2 3 0 1 6 1 1 1 2 20 1 2 "), true);
        due("runs with a child", made("town 1 2;runs 9;child;").count(8), 0);
        due("the least common multiple without clocks", made("town 1 2;light 0 0 police round 7 over 0 for 0;").count(12), 1);
        due("the most CORNERS", made("town 6 9;").count(0) * 10 + made("town 6 9;").count(1), 69);
        StringBuilder lights = new StringBuilder("town 6 9;");
        for (int i = 0; i < 31; i++) {
            lights.append("light").append(i % 6).append(' ').append(i / 6).append("hidden round1over0for0;");
        }
        OverFirst many = made(lights.toString());
        due("31 lights", many.count(2), 31);
        due("31 hidden ones", many.count(9), 31);
    }

    /** "An object is used for at most 512 calls after it has been made": the 512th still holds. */
    private void fiveHundredAndTwelve() {
        OverFirst x = new OverFirst();
        for (int call = 1; call <= 512; call++) {
            due("call " + call, x.stay(1000), 1000 * call);
        }
        x = made(TOWN);
        for (int call = 20; call <= 511; call++) {
            due("call " + call, x.mean(5, 0, 0, call % 4), 29000 - 1000 * (call % 4));
        }
        due("the last call", x.worst(5, 0, 0, 0), 29);
    }
}
