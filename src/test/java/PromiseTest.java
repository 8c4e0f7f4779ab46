/** Each promise by hand: ordinary inputs, the edges that the document names, wrong inputs. */
final class PromiseTest {
    private static final Check CHECK = new Check();
    private static final int MIN = Integer.MIN_VALUE;
    private static final int MAX = Integer.MAX_VALUE;

    /** Over is green in seconds 0 to 3 of 10 at 0 0; a hidden one at 1 0; a button at 0 1; police at 1 1. */
    private static final String SQUARE = "town 3 3; walk 5; run 2; slow 7; runs 2;"
        + "light 0 0 clock round 10 over 0 for 4; light 1 0 hidden round 4 over 1 for 2;"
        + "light 0 1 button round 9 over 6 for 9; light 1 1 police round 1 over 0 for 0; bar 2 1 on; bar 0 1 on; bar 0 1 over;";

    public static void main(String[] args) {
        p01newObject();
        p02feed();
        p03town();
        p03townLines();
        p03townAfterTown();
        p04walk();
        p05light();
        p06green();
        p07until();
        p08go();
        p09stay();
        p10look();
        p11undo();
        p12judged();
        p13soonest();
        p14mean();
        p15worst();
        p16choice();
        p17gap();
        p18watch();
        p19latest();
        p20turning();
        p21worthiest();
        p22odds();
        p23pace();
        p24tried();
        p25does();
        p26wave();
        p27rules();
        p28was();
        p29fits();
        p30nights();
        p31mark();
        p32count();
        CHECK.end();
    }

    private static void due(String call, long got, long want) {
        CHECK.due(call, got, want);
    }

    private static void due(String call, boolean got, boolean want) {
        CHECK.due(call, got, want);
    }

    private static void fault(String text, int kind, int place) {
        due("town() of " + text, Check.town(new OverFirst(), text), kind + 16 * place);
    }

    private static void good(String text) {
        due("town() of " + text, Check.town(new OverFirst(), text), 0);
    }

    private static void p01newObject() {
        OverFirst x = new OverFirst();
        int[] counts = {1, 1, 0, 0, 0, 0, 0, 0, 0, 0, 0, 0, 1, 0, 0};
        for (int what = 0; what < counts.length; what++) {
            due("new count(" + what + ")", x.count(what), counts[what]);
        }
        due("new judged()", x.judged(), -1);
        due("NONE", OverFirst.NONE, -1);
        due("new soonest", x.soonest(0, 0, 0, -1), 0);
        due("new go", x.go(1, false), -1);
    }

    private static void p02feed() {
        OverFirst x = new OverFirst();
        due("feed nothing", x.feed(0, 0, 0), 0);
        due("feed the highest first", x.feed(0x746F776E20312032L, 0x3B00000000000000L, 0), 9);
        due("town 1 2;", x.town(), 0);
        due("its corners on", x.count(1), 2);
        due("feed 31, 127, 128, 255, 9, 13 and 11", x.feed(0x1F7F80FF090D0B00L, -1, MIN), 0);
        due("feed 10, 32 and 126", x.feed(0x0A207E0000000000L, 0x00000000000000FFL, 0x000000000000000AL), 4);
        for (int i = 0; i < 50; i++) {
            x.feed(0x2020202020202020L, 0x2020202020202020L, 0x2020202020202020L);
        }
        due("feed beyond 1,000", x.feed(0x2020202020202020L, 0, 0), 1000);
        due("count(14)", x.count(14), 1000);
        due("town() at the sign 126", x.town(), 1 + 16 * 2);
        due("the tape is taken", x.count(14), 0);
    }

    private static void p03town() {
        fault("", 1, 0);
        fault("  \n ", 1, 4);
        fault("walk 3;", 1, 0);
        fault("town", 1, 4);
        fault("town 0", 4, 5);
        fault("town 7 1;", 4, 5);
        fault("town 6 0;", 4, 7);
        fault("town 6 10;", 4, 7);
        good("town 6 9;");
        good("town6 9;");
        good("\ntown\n01 0009\n;\n");
        fault("town 00001 1;", 1, 5);
        fault("town 1 1", 1, 8);
        fault("town 1 1 1", 1, 9);
        fault("town 1 1;;", 1, 9);
        fault("town 1 1;town 1 1;", 1, 9);
        fault("town 2 2;light 2 0", 4, 15);
        fault("town 2 2;light 0 2", 4, 17);
        fault("town 2 2;light 0 0 clocks", 1, 19);
        fault("town 2 2;light 0 0 clock round 0", 4, 31);
        fault("town 2 2;light 0 0 police round 61", 4, 32);
        fault("town 2 2;light 0 0 button round 60 over 60", 4, 40);
        fault("town 2 2;light 0 0 hidden round 60 over 59 for 61", 4, 47);
        good("town 2 2;light 0 0 hidden round 60 over 59 for 60;");
        fault("town 2 2;light 0 0clock round5over0for0;light0 0", 3, 47);
        good("town 2 2;light 0 0clock round48over0for0;light0 1hidden round50over0for1;");
        fault("town 2 2;light 0 0clock round49over0for0;light0 1hidden round50over0for1;", 4, 61);
        good("town 2 2;light 0 0clock round49over0for0;light0 1button round50over0for1;light1 1police round37over0for0;");
        fault("town 2 2;bar 1 1 up", 1, 17);
        good("town 2 2;bar 1 1 over;bar 1 1 on;bar 0 1 on;");
        fault("town 2 2;bar 1 1 on;bar 1 1 on;", 3, 28);
        fault("town 2 2;bar 2 1 on;", 4, 13);
        fault("town 2 2;bar 1 2 on;", 4, 15);
        fault("town 2 2;abcdefghi", 1, 9);
        fault("town 2 2;walk 5 ! ", 1, 16);
        OverFirst x = Check.made(SQUARE);
        x.go(1, false);
        Check.walk(x, "over 0;");
        due("town() with a fault", Check.town(x, "town 3 3;walk 0;"), 4 + 16 * 14);
        due("all stays: lights", x.count(2), 4);
        due("all stays: walk", x.count(4), 1);
        due("all stays: where", x.count(6), 1);
        due("all stays: undo", x.count(13), 1);
    }

    private static void p03townLines() {
        fault("town 2 2;walk 0;", 4, 14);
        fault("town 2 2;walk 31;", 4, 14);
        fault("town 2 2;run 31;", 4, 13);
        fault("town 2 2;slow 0;", 4, 14);
        fault("town 2 2;runs 10;", 4, 14);
        good("town 2 2;runs 9;walk 30;run 30;slow 1;child;");
        fault("town 2 2;walk 1;walk 1;", 3, 16);
        fault("town 2 2;run 1;run 1;", 3, 15);
        fault("town 2 2;runs 0;runs 0;", 3, 16);
        fault("town 2 2;child;child;", 3, 15);
        fault("town 2 2;child 1;", 1, 15);
        fault("town 2 2;rule for 1;", 1, 14);
        fault("town 2 2;rule police 1;", 1, 14);
        fault("town 2 2;rule 1 1;", 1, 14);
        fault("town 2 2;rule abcdefghi 1;", 1, 14);
        good("town 2 2;rule left 1;rule up 2;rule wait 3;rule abcdefgh 4;");
        fault("town 2 2;rule left 1;rule left 2;", 3, 26);
        fault("town 2 2;rule a 1;rule b 1;rule c 1;rule d 1;rule e 1;", 5, 45);
        fault("town 2 2;rule a;", 1, 15);
        fault("town 2 2;rule a 1 1;", 1, 18);
        fault("town 2 2;rule a 1<2<3;", 1, 19);
        fault("town 2 2;rule a (1=2;", 1, 20);
        fault("town 2 2;rule a 1);", 1, 17);
        fault("town 2 2;rule a 12345;", 1, 16);
        good("town 2 2;rule a (1<2)=(3<on);");
        good("town 2 2;rule a not not not not 1;");
        fault("town 2 2;rule a not not not not not 1;", 5, 36);
        fault("town 2 2;rule a not not not not not not 1;", 5, 36);
        fault("town 2 2;rule a not not not not not ;", 1, 36);
        good("town 2 2;rule a ((((1))));");
        fault("town 2 2;rule a (((((1)))));", 5, 21);
        fault("town 2 2;rule a ((((((1))))));", 5, 21);
        good("town 2 2;rule a not(not(1)+not(2));");
        fault("town 2 2;rule a not(not(not over));", 5, 28);
        good("town 2 2;rule a not(not(over));");
        OverFirst x = Check.made("town 2 2;slow 4;run 7;walk 20;");
        due("runs without", x.count(8), 0);
        x = Check.made("town 1 3;runs 1;");
        due("walk 10 without", x.go(1, false), 10);
        due("run as walk without", x.go(1, true), 20);
        x = Check.made("town 1 3;runs 1;walk 4;");
        due("run as walk", x.go(1, true), 4);
    }

    /** Nothing of an earlier town may be left, whichever of them is read into the same rows. */
    private static void p03townAfterTown() {
        OverFirst x = new OverFirst();
        due("a walk in the first town", Check.walk(x, "over 0;"), 2);
        String full = SQUARE + "rule a 0;child;";
        for (int i = 0; i < 3; i++) {
            due("full", Check.town(x, full), 0);
            Check.walk(x, "over 0;over 9;");
            x.go(0, false);
            x.look();
            x.tried(0, 1, true, 1);
            x.was(1, 0, 3);
            due("full pace", x.pace(0, 1), 10);
            due("full lights", x.count(2), 4);
            due("full rule", x.mean(4, 1, 1, 0), 10000);
            due("a faulty one", Check.town(x, "town 1 1;bar 0 0 on;child 7;"), 1 + 16 * 26);
            due("a walk in the town that holds", Check.walk(x, "over 0;over 9;on 20;"), 0);
            due("bare", Check.town(x, "town 3 3;walk 4;runs 1;rule b 1;"), 0);
            int[] counts = {3, 3, 0, 1, 0, 0, 0, 0, 1, 0, 0, 0, 1, 0, 0};
            for (int what = 0; what < counts.length; what++) {
                due("bare count(" + what + ")", x.count(what), counts[what]);
            }
            due("bare judged", x.judged(), -1);
            due("bare pace", x.pace(0, 1), -1);
            due("bare ways", x.fits(0), 6);
            due("bare bars", x.light(0, 1, 5), 0);
            due("bare rule", x.mean(4, 2, 1, 0), 4000);
            due("bare rules", x.rules(), 0);
            Check.walk(x, "on 0;over 4;");
            due("run and slow as walk", x.pace(0, 1), 8);
            due("run and slow as walk", x.pace(0, 2), 4);
            due("a third", Check.town(x, "town 3 3;walk 4;slow 9;light 1 0 hidden round 9 over 0 for 9;"), 0);
            due("a hidden one is not known", x.count(9), 1);
            Check.town(x, "town 1 3;runs 2;");
            x.go(1, true);
            Check.town(x, "town 3 3;walk 4;slow 9;runs 2;light 1 0 hidden round 9 over 0 for 9;");
            due("all runs again", x.count(8), 2);
            Check.walk(x, "over 0;");
            due("its pace", x.pace(0, 1), 4);
            Check.walk(x, "over 0;over 4;");
            due("the pace of another walk", x.pace(0, 1), 8);
        }
    }

    private static void walkFault(OverFirst x, String text, int kind, int place) {
        due("walk() of " + text, Check.walk(x, text), kind + 16 * place);
    }

    private static void p04walk() {
        OverFirst x = Check.made("town 6 9;bar 1 0 over;");
        due("walk() of nothing", x.walk(), 0);
        walkFault(x, "up", 1, 0);
        walkFault(x, "over 1 ;", 0, 0);
        due("its lines", x.count(4), 1);
        walkFault(x, "over 1 ; over 2;", 2, 9);
        due("the lines stay", x.count(4), 1);
        walkFault(x, "over 10000;", 1, 5);
        walkFault(x, "over;", 1, 4);
        walkFault(x, "over 1", 1, 6);
        walkFault(x, "on 1 on", 1, 5);
        walkFault(x, "on 1;(", 1, 5);
        String all = "on0;on0;on0;on0;on0;on0;on0;on0;over0;over0;over0;over0;over9999;";
        walkFault(x, all, 0, 0);
        due("13 lines", x.count(4), 13);
        walkFault(x, all + "on0;", 2, all.length());
        walkFault(x, "on0;on0;on0;on0;on0;on0;on0;on0;on", 2, 32);
        walkFault(x, "", 0, 0);
        due("no lines", x.count(4), 0);
        x = Check.made("town 2 1;light 0 0 clock round 5 over 0 for 0;");
        walkFault(x, "over 3;", 0, 0);
        due("never green is judged, not a fault", x.judged(), 0);
    }

    private static void p05light() {
        OverFirst x = Check.made(SQUARE);
        int[][] dues = {{0, 0, 0, 10, 0, 4, 0, 0}, {1, 0, 1, 4, 1, 2, 0, 0}, {0, 1, 2, 9, 6, 9, 0, 3}, {1, 1, 3, 1, 0, 0, 0, 0},
            {2, 1, -1, -1, -1, -1, -1, 2}, {2, 2, -1, -1, -1, -1, -1, 0}};
        for (int[] d : dues) {
            for (int what = 0; what < 6; what++) {
                due("light " + d[0] + d[1] + " " + what, x.light(d[0], d[1], what), d[2 + what]);
            }
        }
        due("light what 6", x.light(0, 0, 6), -1);
        due("light what -1", x.light(0, 0, -1), -1);
        due("light beyond", x.light(3, 0, 5), -1);
        due("light beyond", x.light(0, 3, 5), -1);
        due("light beyond", x.light(-1, 0, 0), -1);
        due("light beyond", x.light(0, MIN, 0), -1);
        due("light beyond", x.light(MAX, MAX, 5), -1);
        x.stay(1);
        x.go(0, false);
        due("look", x.look(), true);
        due("known", x.light(1, 0, 4), 1);
        due("a clock is not known", x.light(0, 0, 4), 0);
    }

    private static void p06green() {
        OverFirst x = Check.made(SQUARE);
        due("green over 3", x.green(0, 0, 0, 3), 1);
        due("green over 4", x.green(0, 0, 0, 4), 0);
        due("green on 3", x.green(0, 0, 1, 3), 0);
        due("green on 4", x.green(0, 0, 1, 4), 1);
        due("green over 1000000", x.green(0, 0, 0, 1000000), 1);
        due("green over 1000001", x.green(0, 0, 0, 1000001), -1);
        due("green over -1", x.green(0, 0, 0, -1), -1);
        due("green hidden, before it begins", x.green(1, 0, 0, 0), 0);
        due("green hidden", x.green(1, 0, 0, 1), 1);
        due("green police over", x.green(1, 1, 0, 7), 1);
        due("green police on", x.green(1, 1, 1, 7), 1);
        due("green without a light", x.green(0, 2, 0, 7), 1);
        due("green barred", x.green(2, 1, 1, 7), -1);
        due("green beyond on", x.green(0, 2, 1, 7), -1);
        due("green beyond over", x.green(2, 0, 0, 7), -1);
        due("green way 2", x.green(0, 0, 2, 7), -1);
        due("green way -1", x.green(0, 0, -1, 7), -1);
        due("green no corner", x.green(0, 3, 0, 7), -1);
        x = Check.made("town 2 2;light 0 0 button round 9 over 0 for 0;light 1 0 clock round 7 over 0 for 7;");
        due("green button over", x.green(0, 0, 0, 5), 0);
        due("green button on", x.green(0, 0, 1, 5), 1);
        due("never green on", x.green(1, 0, 1, 5), -1);
    }

    private static void p07until() {
        OverFirst x = Check.made(SQUARE);
        due("until over 3", x.until(0, 0, 0, 3), 0);
        due("until over 4", x.until(0, 0, 0, 4), 6);
        due("until on 0", x.until(0, 0, 1, 0), 4);
        due("until on 9", x.until(0, 0, 1, 9), 0);
        due("until hidden 0", x.until(1, 0, 0, 0), 1);
        due("until hidden on 1", x.until(1, 0, 1, 1), 2);
        due("until 999999", x.until(0, 0, 0, 999999), 1);
        due("until 1000001", x.until(0, 0, 0, 1000001), -1);
        due("until MIN", x.until(0, 0, 0, MIN), -1);
        due("until barred", x.until(0, 1, 0, 0), -1);
        due("until way", x.until(0, 0, 3, 0), -1);
        due("until corner", x.until(-1, 0, 0, 0), -1);
        due("until home", x.until(2, 2, 0, 0), -1);
        x = Check.made("town 2 2;light 0 0 button round 9 over 6 for 0;");
        due("until button over", x.until(0, 0, 0, 5), 6);
        due("until button on", x.until(0, 0, 1, 5), 0);
    }

    private static void p08go() {
        OverFirst x = Check.made(SQUARE);
        due("go way 2", x.go(2, false), -1);
        due("go way MIN", x.go(MIN, true), -1);
        due("nothing to undo", x.count(13), 0);
        due("run on", x.go(1, true), 6);
        due("runs yet", x.count(8), 1);
        due("go barred", x.go(0, false), -1);
        x.undo();
        due("go over", x.go(0, false), 5);
        due("run over a hidden one as told", x.go(0, true), 7);
        due("run on", x.go(1, true), 9);
        due("at 2 1", x.count(5) * 10 + x.count(6), 21);
        due("no runs left", x.count(8), 0);
        due("go barred on", x.go(1, false), -1);
        x = Check.made("town 2 2;child;runs 5;run 1;");
        due("run with a child", x.go(0, true), -1);
        due("go with a child", x.go(0, false), 10);
        due("go beyond", x.go(0, false), -1);
        due("go home", x.go(1, false), 20);
        due("go at home", x.go(1, false), -1);
        x = Check.made("town 2 2;light 0 0 button round 9 over 6 for 0;");
        x.stay(4);
        due("go over by a button", x.go(0, false), 20);
    }

    private static void p09stay() {
        OverFirst x = new OverFirst();
        due("stay 1", x.stay(1), 1);
        due("stay 1000", x.stay(1000), 1001);
        due("stay 0", x.stay(0), -1);
        due("stay 1001", x.stay(1001), -1);
        due("stay MIN", x.stay(MIN), -1);
        due("the second", x.count(7), 1001);
    }

    private static void p10look() {
        OverFirst x = Check.made("town 1 2;light 0 0 hidden round 3 over 0 for 1;light 0 1 hidden round 3 over 0 for 1;");
        due("two hidden", x.count(9), 2);
        due("look", x.look(), true);
        due("look again", x.look(), false);
        due("one hidden", x.count(9), 1);
        due("go", x.go(1, false), 11);
        due("look at home", x.look(), true);
        due("none hidden", x.count(9), 0);
        x = Check.made("town 1 1;light 0 0 clock round 3 over 0 for 1;");
        due("look at a clock", x.look(), false);
        due("look at no light", new OverFirst().look(), false);
    }

    private static void p11undo() {
        OverFirst x = Check.made(SQUARE);
        due("undo nothing", x.undo(), false);
        for (int i = 1; i <= 17; i++) {
            x.stay(1);
        }
        due("16 can be undone", x.count(13), 16);
        for (int i = 1; i <= 16; i++) {
            due("undo " + i, x.undo(), true);
            due("second after undo " + i, x.count(7), 17 - i);
        }
        due("undo the 17th", x.undo(), false);
        due("the first one stays", x.count(7), 1);
        x.go(0, true);
        x.look();
        x.go(1, true);
        x.go(1, false);
        x.tried(0, 1, true, 1);
        x.was(0, 0, 0);
        x.undo();
        due("back at 1 1", x.count(5) * 10 + x.count(6), 11);
        due("no runs there", x.count(8), 0);
        due("known there", x.light(1, 0, 4), 1);
        x.undo();
        due("back at 1 0", x.count(5) * 10 + x.count(6), 10);
        due("one run there", x.count(8), 1);
        due("still known", x.light(1, 0, 4), 1);
        x.undo();
        due("not known", x.light(1, 0, 4), 0);
        due("tried and was stay", x.count(10) + x.count(11), 2);
        x.undo();
        due("back at 0 0", x.count(5), 0);
        due("runs back", x.count(8), 2);
        x.go(2, false);
        x.stay(0);
        due("what can't be isn't undone", x.count(13), 0);
        x.stay(5);
        Check.town(x, "town 1 1;");
        due("undo in a new town", x.undo(), false);
    }

    private static void p12judged() {
        OverFirst x = Check.made("town 3 2;walk 5;light 0 0 clock round 10 over 0 for 4;light 1 0 button round 9 over 3 for 0;");
        judge(x, "", -1);
        judge(x, "over 3;", -1);
        judge(x, "over 4;", 0);
        judge(x, "on 4;", -1);
        judge(x, "over 0;over 8;on 13;", -1);
        judge(x, "over 0;over 7;on 13;", 1);
        judge(x, "over 0;over 9;on 13;", 2);
        judge(x, "over 0;over 9;on 14;", -1);
        judge(x, "over 0;on 5;over 9;", 2);
        judge(x, "over 0;on 4;over 9;", 1);
        judge(x, "over 10;on 9999;", -1);
    }

    private static void judge(OverFirst x, String walk, int want) {
        due("walk " + walk, Check.walk(x, walk), 0);
        due("judged " + walk, x.judged(), want);
    }

    private static void p13soonest() {
        OverFirst x = Check.made("town 2 2;walk 5;light 0 0 clock round 10 over 0 for 4;light 1 0 clock round 20 over 5 for 15;");
        due("soonest at 0: by on, 4 + 5 + 5", x.soonest(0, 0, 0, -1), 14);
        due("way 0", x.soonest(0, 0, 0, 0), 1);
        due("way 1", x.soonest(0, 0, 0, 1), 0);
        due("way 2", x.soonest(0, 0, 0, 2), -2);
        due("what -2", x.soonest(0, 0, 0, -2), -2);
        due("what MIN", x.soonest(0, 0, 0, MIN), -2);
        due("what MAX", x.soonest(0, 0, 0, MAX), -2);
        due("second 1000001", x.soonest(0, 0, 1000001, -1), -2);
        due("second -1", x.soonest(0, 0, -1, -1), -2);
        due("no corner", x.soonest(2, 0, 0, -1), -2);
        due("home", x.soonest(1, 1, 9, -1), 9);
        due("home way", x.soonest(1, 1, 9, 0), -2);
        due("from 1 0 at 5", x.soonest(1, 0, 5, -1), 25);
        due("from 1 0 at 1000000", x.soonest(1, 0, 1000000, -1), 1000005);
        x = Check.made("town 2 2;");
        due("as soon: over", x.soonest(0, 0, 0, 0), 0);
        x = Check.made("town 2 2;bar 0 0 over;bar 0 1 over;");
        due("can't be", x.soonest(0, 0, 0, -1), -2);
        due("can't be, way", x.soonest(0, 0, 0, 0), -2);
    }

    /** At 0 0 a clock; on, a hidden light of 3 seconds: over in one of them, on in two. */
    private static final String HIDDEN = "town 2 3;walk 5;light 0 1 hidden round 3 over 0 for 1;light 0 2 clock round 20 over 0 for 3;"
        + "rule o over;rule n 0;rule s on-over<0;";

    private static void p14mean() {
        OverFirst x = Check.made(HIDDEN);
        due("over first", x.mean(0, 0, 0, 0), 15000);
        due("over first from the hidden one: waits 0, 2, 1", x.mean(0, 0, 1, 0), 11000);
        due("on first: waits 1, 0, 0, then the clock till 20", x.mean(1, 0, 1, 0), 25000);
        due("whichever: over at one second, on at two", x.mean(2, 0, 1, 0), (10 + 25 + 25) * 1000 / 3);
        due("best: over always, waits 0, 2, 1", x.mean(3, 0, 1, 0), 11000);
        due("best at 16: over 10, or on to be there at 21", x.mean(3, 0, 1, 16), (10 + 10 + 10) * 1000 / 3);
        due("cut: whichever at 16", x.mean(2, 0, 1, 15), (10 + 10 + 10) * 1000 / 3);
        due("cut: whichever at 9", x.mean(2, 0, 1, 9), (10 + 16 + 16) * 1000 / 3);
        due("cut", x.mean(2, 0, 1, 14), (10 + 11 + 11) * 1000 / 3);
        due("rule o: over if its wait isn't 0", x.mean(4, 0, 1, 0), (25 + 12 + 11) * 1000 / 3);
        due("rule n: on", x.mean(5, 0, 1, 0), x.mean(1, 0, 1, 0));
        due("no such goer", x.mean(7, 0, 0, 0), -1);
        due("goer -1", x.mean(-1, 0, 0, 0), -1);
        due("goer MAX", x.mean(MAX, 0, 0, 0), -1);
        due("no corner", x.mean(0, 2, 0, 0), -1);
        due("second", x.mean(0, 0, 0, 1000001), -1);
        due("second", x.mean(0, 0, 0, -1), -1);
        due("home", x.mean(3, 1, 2, 5), 0);
        due("as modulo the common multiple", x.mean(2, 0, 1, 1000000), x.mean(2, 0, 1, 40));
        x = Check.made("town 2 2;bar 1 0 on;");
        due("left without a way", x.mean(0, 0, 0, 0), -1);
        due("the best isn't", x.mean(3, 0, 0, 0), 20000);
        due("left there", x.mean(3, 1, 0, 0), -1);
    }

    private static void p15worst() {
        OverFirst x = Check.made(HIDDEN);
        due("over first: waits 2", x.worst(0, 0, 1, 0), 12);
        due("on first: sets out at 1, the clock's over is green at 20", x.worst(1, 0, 1, 0), 25);
        due("best", x.worst(3, 0, 1, 0), 12);
        due("best at 15", x.worst(3, 0, 1, 15), 10);
        due("home", x.worst(2, 1, 2, 0), 0);
        due("goer", x.worst(7, 0, 0, 0), -1);
        due("corner", x.worst(0, 0, 3, 0), -1);
        due("second", x.worst(0, 0, 0, -5), -1);
        x = Check.made("town 2 2;bar 1 0 on;");
        due("left without a way", x.worst(0, 0, 0, 0), -1);
        due("the best isn't", x.worst(3, 0, 0, 0), 20);
    }

    private static void p16choice() {
        OverFirst x = Check.made(HIDDEN);
        due("over is green", x.choice(0, 1, 15, 0), 0);
        due("on is green, and the clock too as he comes", x.choice(0, 1, 15, 1), 1);
        due("on is green, but not the clock", x.choice(0, 1, 3, 1), 0);
        due("at its round", x.choice(0, 1, 3, 3), -1);
        due("at -1", x.choice(0, 1, 3, -1), -1);
        due("no light: it does not matter", x.choice(0, 0, 3, -99), 0);
        due("a clock: it does not matter", x.choice(0, 2, 3, 99), 0);
        due("home", x.choice(1, 2, 0, 0), -1);
        due("corner", x.choice(2, 2, 0, 0), -1);
        due("second", x.choice(0, 0, 1000001, 0), -1);
        x.go(1, false);
        x.look();
        due("known: it does not matter", x.choice(0, 1, 3, 3), 0);
        x = Check.made("town 2 2;bar 1 0 on;");
        due("never there", x.choice(1, 0, 0, 0), -1);
        due("the way there is", x.choice(0, 0, 0, 0), 1);
        due("over if alike", Check.made("town 2 2;").choice(0, 0, 0, 0), 0);
    }

    private static void p17gap() {
        OverFirst x = Check.made(HIDDEN);
        due("gap at the hidden one", x.gap(0, 1, 0), 20000 - 11000);
        due("gap home", x.gap(1, 2, 0), 0);
        due("gap corner", x.gap(0, 9, 0), -1);
        due("gap second", x.gap(0, 0, -1), -1);
        x = Check.made("town 2 2;bar 1 0 on;");
        due("whichever has none", x.gap(0, 0, 0), -1);
        due("both have one", x.gap(0, 1, 0), 0);
    }

    private static void p18watch() {
        String two = "town 2 2;walk 5;light 0 1 hidden round 2 over 0 for 2;light 1 0 hidden round 20 over 0 for 10;";
        OverFirst x = Check.made(two);
        due("unwatched: on, 10", x.mean(3, 0, 0, 0), 10000);
        due("watching is worth nothing", x.watch(1, 0, 0), 0);
        String over = "town 2 2;walk 5;light 0 1 button round 30 over 9 for 0;light 1 0 hidden round 20 over 0 for 10;";
        x = Check.made(over);
        due("over: half the time 0, else 1 to 10, 2750 on the mean", x.mean(3, 0, 0, 0), 12750);
        due("known: of waits 0 to 10 that of 10 alone is more than the button's 9", x.watch(1, 0, 0), 12750 - (12750 * 20 - 1000) / 20);
        due("watched from another second", x.watch(1, 0, 13), 50);
        due("no light", x.watch(0, 0, 0), -1);
        due("a button", x.watch(0, 1, 0), -1);
        due("corner", x.watch(5, 5, 0), -1);
        due("second", x.watch(1, 0, -1), -1);
        x.go(0, false);
        x.look();
        due("known", x.watch(1, 0, 0), -1);
        x = Check.made("town 2 2;light 0 0 hidden round 5 over 0 for 2;bar 0 1 over;bar 1 0 on;");
        due("no mean", x.watch(0, 0, 0), -1);
        x = Check.made("town 1 1;light 0 0 hidden round 5 over 0 for 2;");
        due("at home", x.watch(0, 0, 0), 0);
    }

    private static void p19latest() {
        OverFirst x = Check.made("town 1 2;walk 5;light 0 0 clock round 10 over 0 for 4;");
        due("till it is green", x.latest(0, 0, 0), 4);
        due("at 5", x.latest(0, 0, 5), 5);
        due("at 11", x.latest(0, 0, 11), 14);
        due("home", x.latest(0, 1, 7), 7);
        due("corner", x.latest(1, 1, 7), -1);
        due("second", x.latest(0, 0, 1000001), -1);
        due("at 1000000", x.latest(0, 0, 1000000), 1000004);
        x = Check.made("town 1 3;walk 1;light 0 1 clock round 60 over 0 for 59;");
        due("stays for a light further on", x.latest(0, 0, 0), 58);
        due("the common multiple less 1 at most", x.latest(0, 0, 59), 118);
        x = Check.made("town 1 3;bar 0 1 on;");
        due("can't be", x.latest(0, 0, 0), -1);
    }

    private static void p20turning() {
        OverFirst x = Check.made("town 3 3;walk 5;light 1 0 clock round 50 over 10 for 20;light 2 0 clock round 50 over 0 for 30;"
            + "light 0 2 clock round 50 over 40 for 10;");
        due("turning 1: over, over, then on at 30; on, on, over is 50", x.turning(0, 1), 40);
        due("turning 2: over, on, on, over", x.turning(0, 2), 20);
        due("turning 0", x.turning(0, 0), -1);
        due("turning 12", x.turning(0, 12), 20);
        due("turning 13", x.turning(0, 13), -1);
        due("turning -1", x.turning(0, -1), -1);
        due("second", x.turning(-1, 3), -1);
        due("second", x.turning(1000001, 3), -1);
        due("straight on", Check.made("town 1 9;walk 1;").turning(3, 0), 11);
        due("home at once", new OverFirst().turning(3, 0), 3);
        due("can't be", Check.made("town 1 9;bar 0 3 on;").turning(3, 12), -1);
    }

    private static void p21worthiest() {
        String over = "town 2 2;walk 5;light 0 1 button round 30 over 9 for 0;light 1 0 hidden round 20 over 0 for 10;";
        OverFirst x = Check.made(over + "light 0 0 hidden round 1 over 0 for 0;");
        due("one can't go over at 0 0: both are worth nothing, the first", x.worthiest(0), 0);
        x = Check.made(over + "light 1 1 hidden round 1 over 0 for 0;");
        due("the one that is worth something", x.worthiest(0), 1);
        x = Check.made("town 2 9;light 1 8 hidden round 7 over 0 for 0;");
        due("8 * y + x", x.worthiest(1000000), 65);
        due("second", x.worthiest(1000001), -1);
        due("second", x.worthiest(-1), -1);
        due("no such light", Check.made("town 2 2;").worthiest(0), -1);
        due("no mean", Check.made("town 1 2;bar 0 0 on;light 0 0 hidden round 7 over 0 for 0;").worthiest(0), -1);
    }

    private static void p22odds() {
        OverFirst x = Check.made("town 1 3;walk 5;light 0 0 hidden round 3 over 0 for 1;light 0 1 hidden round 3 over 0 for 2;");
        due("sooner than can be", x.odds(1, 10, 19), 0);
        due("at 20: no wait at 0 0 (2 of 3), none at 0 1 (1 of 3)", x.odds(1, 10, 20), 222222);
        due("at 21: cut at each", x.odds(1, 10, 21), (666666 * 2 + 333333) / 3);
        due("at 22", x.odds(1, 10, 22), (1000000 * 2 + 666666) / 3);
        due("at 23", x.odds(1, 10, 23), 1000000);
        due("at 1000000", x.odds(3, 10, 1000000), 1000000);
        due("by ahead of the second", x.odds(3, 10, 9), 0);
        due("by -1", x.odds(3, 10, -1), -1);
        due("by 1000001", x.odds(3, 10, 1000001), -1);
        due("second", x.odds(3, -1, 10), -1);
        due("goer", x.odds(4, 0, 10), -1);
        due("never home", Check.made("town 1 2;bar 0 0 on;").odds(0, 0, 10), -1);
        x = Check.made("town 2 3;walk 5;bar 0 0 over;light 1 1 clock round 20 over 15 for 15;light 0 2 clock round 20 over 12 for 9;");
        due("the best chooses by when he comes: over at 5, home at 15", x.odds(3, 0, 15), 1000000);
        due("home at once", new OverFirst().odds(0, 5, 5), 1000000);
        due("home at once, too late", new OverFirst().odds(0, 5, 4), 0);
    }

    private static void p23pace() {
        String base = "town 1 4;walk 5;run 3;slow 7;light 0 1 clock round 10 over 0 for 7;light 0 2 clock round 10 over 5 for 6;";
        OverFirst x = Check.made(base + "runs 1;");
        due("no walk", x.pace(0, 0), -1);
        Check.walk(x, "on 0;on 7;on 11;");
        due("stands at none: 7, then 5 to be there at 12", x.pace(0, 0), 0);
        due("there", x.pace(0, 1), 15);
        due("street 0", x.pace(0, 2), 7);
        due("street 1", x.pace(0, 3), 5);
        due("street 2: the one run", x.pace(0, 4), 3);
        due("beyond", x.pace(0, 5), -1);
        due("what -1", x.pace(0, -1), -1);
        due("second -1", x.pace(-1, 0), -1);
        due("second 1000001", x.pace(1000001, 0), -1);
        due("at 1000000", x.pace(1000000, 1), 1000015);
        x = Check.made(base + "runs 1;child;");
        Check.walk(x, "on 0;on 7;on 11;");
        due("no runs with a child", x.pace(0, 1), 17);
        x = Check.made(base + "runs 9;");
        Check.walk(x, "on 0;on 7;on 11;");
        due("runs: 7, then 4 to be there at 11", x.pace(0, 1), 14);
        due("street 1", x.pace(0, 3), 4);
        x = Check.made("town 1 2;walk 5;run 6;slow 4;");
        Check.walk(x, "on 0;");
        due("run above slow: walk alone", x.pace(0, 2), 5);
        x = Check.made("town 1 2;walk 5;run 3;runs 1;");
        Check.walk(x, "on 0;");
        due("slow as walk without", x.pace(0, 2), 3);
        x = Check.made("town 1 2;walk 9;run 3;slow 4;");
        Check.walk(x, "on 0;");
        due("no runs left for any street", x.pace(0, 0), -1);
        x = Check.made("town 1 2;light 0 0 clock round 9 over 0 for 9;");
        Check.walk(x, "on 0;");
        due("never green", x.pace(0, 0), -1);
        x = Check.made("town 1 2;light 0 0 clock round 9 over 0 for 8;");
        Check.walk(x, "on 0;");
        due("stands at 0 0 too", x.pace(0, 0), 1);
        due("and sets out at 8", x.pace(0, 1), 18);
    }

    private static void p24tried() {
        OverFirst x = Check.made(SQUARE);
        due("no button", x.tried(0, 0, true, 0), false);
        due("no light", x.tried(2, 2, true, 0), false);
        due("corner", x.tried(3, 0, true, 0), false);
        due("waited -1", x.tried(0, 1, true, -1), false);
        due("waited 60", x.tried(0, 1, true, 60), false);
        for (int i = 0; i < 10; i++) {
            due("tried " + i, x.tried(0, 1, i % 2 == 0, i == 0 ? 59 : 0), true);
            due("count(10)", x.count(10), i + 1);
        }
        due("an 11th", x.tried(0, 1, true, 0), false);
        Check.town(x, SQUARE);
        due("none in a new town", x.count(10), 0);
    }

    private static void p25does() {
        OverFirst x = Check.made("town 2 1;light 0 0 button round 60 over 0 for 0;light 1 0 button round 9 over 8 for 0;");
        due("as likely as not", x.does(0, 0, 0), 1);
        due("of", x.does(0, 0, 1), 2);
        for (int i = 0; i < 10; i++) {
            x.tried(0, 0, true, 0);
        }
        due("60 to the 10th", x.does(0, 0, 0), 604661760000000000L);
        due("and 1", x.does(0, 0, 1), 604661760000000001L);
        due("the other one's alone", x.does(1, 0, 1), 2);
        due("what 2", x.does(0, 0, 2), -1);
        due("what -1", x.does(0, 0, -1), -1);
        due("corner", x.does(0, 1, 0), -1);
        due("no button", Check.made(SQUARE).does(0, 0, 0), -1);
        x = Check.made("town 1 1;light 0 0 button round 9 over 5 for 0;");
        x.tried(0, 0, true, 5);
        due("9 of 9 + 6", x.does(0, 0, 0), 3);
        due("in lowest terms", x.does(0, 0, 1), 5);
        x.tried(0, 0, false, 50);
        due("not pressed tells nothing", x.does(0, 0, 1), 5);
        x.tried(0, 0, true, 6);
        due("it does nothing", x.does(0, 0, 0), 0);
        due("of 1", x.does(0, 0, 1), 1);
        x.tried(0, 0, true, 9);
        due("neither can be", x.does(0, 0, 1), -1);
    }

    private static void p26wave() {
        OverFirst x = Check.made("town 2 5;walk 4;light 0 0 clock round 10 over 8 for 5;light 0 1 hidden round 10 over 0 for 7;"
            + "light 0 2 clock round 10 over 0 for 0;light 0 3 clock round 10 over 0 for 10;light 1 0 clock round 10 over 0 for 5;"
            + "light 1 1 clock round 9 over 0 for 5;light 1 3 button round 9 over 0 for 5;light 1 2 clock round 9 over 3 for 4;");
        due("on 3 to 7, then 3 of those", x.wave(0, 0, 2, false, 0), 3);
        due("the first row: from 7 on", x.wave(0, 0, 2, false, 1), 7);
        due("always green", x.wave(0, 0, 3, false, 0), 3);
        due("its beginning", x.wave(0, 0, 3, false, 2), 0);
        due("never green", x.wave(0, 0, 4, false, 0), 0);
        due("its beginning", x.wave(0, 0, 4, false, 3), 0);
        due("what", x.wave(0, 0, 4, false, 4), -1);
        due("what -1", x.wave(0, 0, 4, false, -1), -1);
        due("many 5", x.wave(0, 0, 5, false, 0), -1);
        due("many 1", x.wave(0, 0, 1, false, 0), -1);
        due("not of one round", x.wave(1, 0, 2, false, 0), -1);
        due("a button", x.wave(1, 2, 2, false, 0), -1);
        due("none there", x.wave(0, 3, 2, false, 0), -1);
        due("beyond the town", x.wave(0, 4, 2, false, 0), -1);
        due("corner", x.wave(-1, 0, 2, false, 0), -1);
        due("corner", x.wave(0, MAX, 2, false, 0), -1);
        due("two of nine", x.wave(1, 1, 2, false, 0), 4);
        due("both: three there, and back from 9, 0 and 1", x.wave(0, 0, 2, true, 0), 6);
        due("so it begins at 9", x.wave(0, 0, 2, true, 1), 9);
        x = Check.made("town 1 2;walk 5;light 0 0 clock round 10 over 5 for 5;light 0 1 clock round 10 over 5 for 5;");
        due("half a round away, both ways all fit", x.wave(0, 0, 2, true, 0), 10);
        due("green when the other isn't", x.wave(0, 0, 2, true, 1), 5);
        p26waveAfterWave();
        Check.town(x, "town 1 2;walk 10;light 0 0 clock round 10 over 5 for 5;light 0 1 clock round 10 over 5 for 5;");
        due("asked anew in a new town", x.wave(0, 0, 2, true, 1), 0);
    }

    /** What was found for one row of lights may not be told of another. */
    private static void p26waveAfterWave() {
        StringBuilder rows = new StringBuilder("town 6 9;walk 3;");
        for (int y = 0; y < 9; y++) {
            for (int x = 0; x < 6; x += 2) {
                rows.append("light" + x + " " + y + "clock round8over" + (y * y + x) % 8 + "for" + (3 * y + x) % 7 + ";");
            }
        }
        String town = rows.toString();
        OverFirst x = Check.made(town);
        for (int corner = 0; corner < 54; corner++) {
            for (int many = 2; many <= 4; many++) {
                for (int both = 0; both < 2; both++) {
                    OverFirst fresh = Check.made(town);
                    for (int what = 0; what < many; what++) {
                        due("wave " + corner % 6 + corner / 6 + many + both + what,
                            x.wave(corner % 6, corner / 6, many, both == 1, what), fresh.wave(corner % 6, corner / 6, many, both == 1, what));
                    }
                }
            }
        }
    }

    private static void p27rules() {
        String town = "town 2 2;walk 5;light 1 0 clock round 20 over 0 for 15;";
        due("none", Check.made(town).rules(), -1);
        due("the least", Check.made(town + "rule a 1;rule b 0;").rules(), 1);
        due("the first of equal ones", Check.made(town + "rule a 0;rule b 0;").rules(), 0);
        due("none has a mean", Check.made(town + "bar 1 0 on;rule a 1;").rules(), -1);
        due("one has", Check.made(town + "bar 1 0 on;rule a 1;rule b 0;").rules(), 1);
        String[] over = {"1", "not 0", "1 or 0 and 1", "2<3", "3=3", "2-3", "3-2-1 =0", "2+3*4=14", "0 or 2", "not 1 + 1", "(0 and 0) or 1",
            "9999*9999*9999*9999 < 0 or 1", "left=1", "up = 1", "left + up = 2", "0 or 0 = 0"};
        for (String e : over) {
            due("rule " + e + " says over", Check.made(town + "rule a " + e + ";").mean(4, 0, 0, 0), 20000);
        }
        String[] on = {"0", "not 7", "0 and 1", "1 or 1 and 0", "3<3", "2=3", "3-3", "0*5", "left-up", "over+on", "1-2<0-1", "not (2<3)",
            "(1 and 2)=2"};
        for (String e : on) {
            due("rule " + e + " says on", Check.made(town + "rule a " + e + ";").mean(4, 0, 0, 0), 10000);
        }
        due("ints wrap", Check.made(town + "rule a 4096*4096*256;").mean(4, 0, 0, 0), 10000);
        due("ints wrap below 0", Check.made(town + "rule a 4096*4096*128<0;").mean(4, 0, 0, 0), 20000);
        due("the other one where he can't", Check.made("town 2 1;rule a 0;").mean(4, 0, 0, 0), 10000);
    }

    private static void p28was() {
        OverFirst x = Check.made(SQUARE);
        due("second -1", x.was(0, 0, -1), false);
        due("second 10000", x.was(0, 0, 10000), false);
        due("corner", x.was(3, 0, 0), false);
        due("corner", x.was(0, -1, 0), false);
        for (int i = 0; i < 8; i++) {
            due("was " + i, x.was(0, 0, i == 7 ? 9999 : 0), true);
            due("count(11)", x.count(11), i + 1);
        }
        due("a 9th", x.was(0, 0, 0), false);
    }

    private static void p29fits() {
        OverFirst x = Check.made("town 3 9;walk 5;light 0 0 clock round 10 over 0 for 4;");
        due("10 streets, 2 of them over", x.fits(0), 45);
        due("the first: over, over, then on", x.fits(1), 0x3FC);
        due("corners on all", x.fits(2), 1);
        due("row 8: home", x.fits(3), 4);
        due("what 4", x.fits(4), -1);
        due("what -1", x.fits(-1), -1);
        x.was(0, 0, 4);
        due("at 0 0 at 4: then on", x.fits(0), 36);
        due("the first", x.fits(1), 0x3F9);
        due("corners", x.fits(2), 0x101);
        x.was(1, 1, 14);
        due("over at 9, there at 14", x.fits(0), 8);
        due("corners", x.fits(2), 0x301);
        x.was(2, 8, 9999);
        due("at home ever after", x.fits(0), 8);
        x.was(2, 8, 53);
        due("ahead of his coming: none", x.fits(0), 0);
        due("none, what 1", x.fits(1), -1);
        due("none, what 2", x.fits(2), -1);
        due("none, what 3", x.fits(3), -1);
        x = Check.made("town 3 9;walk 5;light 0 0 clock round 10 over 0 for 4;");
        x.was(0, 0, 5);
        due("later than he sets out", x.fits(0), 0);
        due("all of the widest town", Check.made("town 6 9;").fits(0), 1287);
        due("none without a way", Check.made("town 1 2;bar 0 0 on;").fits(0), 0);
    }

    private static void p30nights() {
        OverFirst x = Check.made("town 1 3;walk 5;light 0 0 hidden round 7 over 0 for 5;light 0 1 hidden round 60 over 3 for 40;");
        // from seed 1: 1103527590, 377401575, .. : by 65536: 16838, 5758, 10113, 17515
        due("one night: 16838 % 7 = 3, so 2 to wait; at 7, 5758 % 60 = 58, 65 stands at 5: 38", x.nights(1, 1, 1, 0), 7 + 38 + 5);
        due("the longest", x.nights(1, 1, 1, 1), 50);
        int second = 5 - 10113 % 7;
        second = (second > 0 ? second : 0) + 5;
        int stand = (second + 17515 - 3) % 60;
        second += (stand < 40 ? 40 - stand : 0) + 5;
        due("two nights", x.nights(1, 2, 1, 0), 50 + second);
        due("the longer one", x.nights(1, 2, 1, 1), Math.max(50, second));
        due("many 0", x.nights(1, 0, 1, 0), -1);
        due("many 31", x.nights(1, 31, 1, 0), -1);
        due("what 2", x.nights(1, 1, 1, 2), -1);
        due("what -1", x.nights(1, 1, 1, -1), -1);
        due("goer 4", x.nights(1, 1, 4, 0), -1);
        due("goer -1", x.nights(1, 1, -1, 0), -1);
        due("a seed below 0", x.nights(-2147483647, 1, 1, 0), 50);
        due("never home", Check.made("town 1 2;bar 0 0 on;").nights(1, 1, 3, 0), -1);
        x.look();
        int known = 5 + 5;
        stand = (known + 16838 - 3) % 60;
        due("a known one has no draw", x.nights(1, 1, 1, 0), known + (stand < 40 ? 40 - stand : 0) + 5);
    }

    private static void p31mark() {
        OverFirst x = Check.made(SQUARE);
        due("mark -1", x.mark(-1, false), false);
        due("mark 4", x.mark(4, false), false);
        due("mark 4 back", x.mark(4, true), false);
        due("nothing on it", x.mark(3, true), false);
        x.go(0, true);
        x.look();
        x.tried(0, 1, true, 8);
        x.was(1, 0, 2);
        due("laid", x.mark(3, false), true);
        due("can still be undone", x.count(13), 2);
        x.stay(9);
        x.tried(0, 1, true, 0);
        x.was(1, 0, 77);
        x.undo();
        x.undo();
        due("laid 0", x.mark(0, false), true);
        due("gone back to", x.mark(3, true), true);
        due("where", x.count(5), 1);
        due("when", x.count(7), 2);
        due("runs", x.count(8), 1);
        due("known", x.count(9), 0);
        due("tried", x.count(10), 1);
        due("what was tried", x.does(0, 1, 0), 0);
        due("was", x.count(11), 1);
        due("nothing can be undone", x.undo(), false);
        due("back to 0", x.mark(0, true), true);
        due("not known there", x.count(9), 1);
        due("tried there", x.count(10), 2);
        x.stay(1);
        x.mark(3, false);
        x.mark(3, true);
        due("laid again", x.count(9), 1);
        p31markHoldsAll();
        for (int mark = 0; mark < 4; mark++) {
            x.mark(mark, false);
        }
        Check.town(x, "town 1 1;");
        for (int mark = 0; mark < 4; mark++) {
            due("no mark in a new town", x.mark(mark, true), false);
        }
        x.mark(1, false);
        Check.town(x, "town 0");
        due("a fault leaves it", x.mark(1, true), true);
    }

    private static void p31markHoldsAll() {
        OverFirst x = Check.made("town 3 3;walk 5;run 2;runs 3;light 0 1 button round 9 over 5 for 0;light 1 1 button round 8 over 1 for 0;"
            + "light 1 0 hidden round 4 over 0 for 2;");
        x.go(0, true);
        x.look();
        x.go(1, true);
        x.tried(0, 1, true, 5);
        x.was(1, 0, 5);
        x.mark(2, false);
        Check.town(x, "town 0");
        x.mark(1, false);
        x.mark(1, true);
        x.go(1, true);
        x.tried(1, 1, true, 0);
        x.was(0, 0, 1);
        x.mark(1, false);
        due("other ones", x.count(10) + x.count(11), 4);
        x.mark(2, true);
        x.tried(1, 1, true, 7);
        x.was(2, 2, 9999);
        int[] counts = {1, 1, 4, 1, 0, 2, 2};
        for (int i = 0; i < counts.length; i++) {
            due("mark 2, count(" + (5 + i) + ")", x.count(5 + i), counts[i]);
        }
        due("mark 2, does", x.does(1, 1, 0), 0);
        due("mark 2, fits", x.fits(0), 3);
        x.mark(1, true);
        counts = new int[] {1, 2, 6, 0, 0, 2, 2};
        for (int i = 0; i < counts.length; i++) {
            due("mark 1, count(" + (5 + i) + ")", x.count(5 + i), counts[i]);
        }
        due("mark 1, does", x.does(1, 1, 0), 4);
        due("mark 1, does", x.does(0, 1, 0), 3);
        due("mark 1, fits", x.fits(0), 0);
        p31markAfterMark(Check.made("town 2 2;walk 5;light 0 0 button round 9 over 5 for 0;light 0 1 button round 7 over 5 for 0;"));
    }

    private static void p31markAfterMark(OverFirst x) {
        x.mark(0, false);
        x.tried(0, 1, true, 6);
        x.was(0, 1, 5);
        x.mark(1, false);
        x.mark(0, true);
        x.tried(0, 0, true, 5);
        x.was(1, 0, 10);
        due("what the mark does not hold", x.does(0, 0, 0), 3);
        due("what the mark does not hold", x.fits(1), 2);
        x.mark(1, true);
        due("what was tried elsewhere is gone", x.does(0, 0, 0), 1);
        due("what was tried is back", x.does(0, 1, 0), 0);
        due("one way fits what is back", x.fits(0), 1);
        due("that one", x.fits(1), 1);
    }

    private static void p32count() {
        OverFirst x = Check.made(SQUARE + "rule a 1;rule b 2;");
        Check.walk(x, "over 0;over 6;");
        x.go(0, true);
        x.tried(0, 1, false, 1);
        x.was(1, 0, 1);
        x.was(1, 0, 1);
        x.feed(0x2020200000000000L, 0, 0);
        int[] counts = {3, 3, 4, 2, 2, 1, 0, 2, 1, 1, 1, 2, 20, 1, 3};
        for (int what = 0; what < counts.length; what++) {
            due("count(" + what + ")", x.count(what), counts[what]);
        }
        due("count(15)", x.count(15), -1);
        due("count(-1)", x.count(-1), -1);
        due("count(MAX)", x.count(MAX), -1);
        due("runs with a child", Check.made("town 1 1;runs 9;child;").count(8), 0);
    }
}
