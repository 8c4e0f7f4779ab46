import java.math.BigInteger;

/** The edges of lights, waits, what is done by hand, ways home, goers, paces, buttons, waves, sightings, draws and marks. */
final class TownEdges extends Edges {
    private static final int T = Doc.TERMS;

    TownEdges(Doc doc, Check check) {
        super(doc, check);
    }

    @Override
    void run() {
        home();
        canGo();
        greenAlways();
        greenByClock();
        greenByButton();
        waits();
        streets();
        byHand();
        runsInAll();
        undone();
        judgedWalks();
        soonestWays();
        latestSeconds();
        turns();
        hiddenOnes();
        fiveGoers();
        means();
        theBest();
        worsts();
        choices();
        gaps();
        watches();
        worthiestOnes();
        oddsBy();
        paces();
        paceRuns();
        paceOfEqualOnes();
        paceByLights();
        triedTen();
        doesIt();
        waves();
        wavesBoth();
        wavesAlwaysOrNever();
        rulesLeast();
        wasAt();
        fitting();
        draws();
        nightsByDraws();
        marks();
    }

    private void home() {
        doc.says(T, "HOME is the last CORNER over and on.");
        for (int wide = 1; wide <= 6; wide++) {
            for (int high = 1; high <= 9; high++) {
                OverFirst x = made("town " + wide + " " + high + ";walk 1;");
                String town = "town " + wide + " " + high;
                due(town + ": soonest at HOME", x.soonest(wide - 1, high - 1, 7, -1), 7);
                due(town + ": MEAN at HOME", x.mean(0, wide - 1, high - 1, 7), 0);
                due(town + ": CHOICE at HOME", x.choice(wide - 1, high - 1, 7, 0), -1);
                due(town + ": soonest from 0 0", x.soonest(0, 0, 7, -1), 7 + wide - 1 + high - 1);
                due(town + ": beyond over", x.soonest(wide, high - 1, 7, -1), -2);
                due(town + ": beyond on", x.soonest(wide - 1, high, 7, -1), -2);
            }
        }
    }

    private void canGo() {
        doc.says(T, "From a CORNER one can go over (but at the last ones over), on (but at the last ones on),");
        for (int wide = 1; wide <= 6; wide++) {
            for (int high = 1; high <= 9; high++) {
                OverFirst x = made("town " + wide + " " + high + ";");
                for (int i = 0; i < wide; i++) {
                    for (int j = 0; j < high; j++) {
                        due("over at " + i + " " + j + " of " + wide + " " + high, x.until(i, j, 0, 0), i == wide - 1 ? -1 : 0);
                        due("on at " + i + " " + j + " of " + wide + " " + high, x.until(i, j, 1, 0), j == high - 1 ? -1 : 0);
                    }
                }
            }
        }
        doc.says(T, "if it isn't barred and a clock, a hidden one is ever green for it.");
        OverFirst x = made("town 2 2;bar 0 0 over;");
        due("barred over", x.until(0, 0, 0, 0), -1);
        due("not barred on", x.until(0, 0, 1, 0), 0);
        x = made("town 2 2;bar 0 0 on;");
        due("not barred over", x.until(0, 0, 0, 0), 0);
        due("barred on", x.until(0, 0, 1, 0), -1);
        for (String kind : new String[] {"clock", "hidden", "button", "police"}) {
            boolean timed = kind.equals("clock") || kind.equals("hidden");
            for (int round : new int[] {1, 2, 60}) {
                for (int span = 0; span <= round; span++) {
                    x = made("town 2 2;light 0 0 " + kind + " round " + round + " over 0 for " + span + ";");
                    due(kind + " for " + span + " of " + round + ": over", x.green(0, 0, 0, 0) == -1, timed && span == 0);
                    due(kind + " for " + span + " of " + round + ": on", x.green(0, 0, 1, 0) == -1, timed && span == round);
                    due(kind + " for " + span + " of " + round + ": go over", x.go(0, false) == -1, timed && span == 0);
                    x = made("town 2 2;light 0 0 " + kind + " round " + round + " over 0 for " + span + ";");
                    due(kind + " for " + span + " of " + round + ": go on", x.go(1, false) == -1, timed && span == round);
                }
            }
        }
    }

    private void greenAlways() {
        doc.says(T, "GREEN: without a light, by police: both, always.");
        OverFirst none = made("town 2 2;");
        OverFirst never = made("town 2 2;light 0 0 police round 7 over 3 for 0;");
        OverFirst whole = made("town 2 2;light 0 0 police round 7 over 3 for 7;");
        for (int second : new int[] {0, 1, 2, 3, 6, 7, 59, 60, 999999, LAST}) {
            for (int way = 0; way < 2; way++) {
                due("without a light", none.green(0, 0, way, second), 1);
                due("by police, for 0", never.green(0, 0, way, second), 1);
                due("by police, for its round", whole.green(0, 0, way, second), 1);
                due("WAIT by police", never.until(0, 0, way, second), 0);
                due("WAIT without a light", none.until(0, 0, way, second), 0);
            }
        }
    }

    private void greenByClock() {
        doc.says(T, "clock, hidden: over in the seconds t for which (t - over) modulo round is below for; on in all others.");
        for (int round : new int[] {1, 2, 3, 7, 10, 60}) {
            for (int over = 0; over < round; over += round > 10 ? 19 : 1) {
                for (int span = 0; span <= round; span += round > 10 ? 12 : 1) {
                    String light = " round " + round + " over " + over + " for " + span + ";";
                    OverFirst clock = made("town 2 2;light 0 0 clock" + light);
                    OverFirst hidden = made("town 2 2;light 0 0 hidden" + light);
                    for (int n = 0; n <= 2 * round; n++) {
                        greenAt(clock, light, round, over, span, n);
                        greenAt(hidden, light, round, over, span, n);
                        greenAt(clock, light, round, over, span, LAST - n);
                    }
                }
            }
        }
    }

    private void greenAt(OverFirst x, String light, int round, int over, int span, int second) {
        int since = (second + round - over) % round;
        boolean isOver = since < span;
        due("over at " + second + light, x.green(0, 0, 0, second), span == 0 ? -1 : isOver ? 1 : 0);
        due("on at " + second + light, x.green(0, 0, 1, second), span == round ? -1 : isOver ? 0 : 1);
        due("till over at " + second + light, x.until(0, 0, 0, second), span == 0 ? -1 : isOver ? 0 : round - since);
        due("till on at " + second + light, x.until(0, 0, 1, second), span == round ? -1 : isOver ? span - since : 0);
    }

    private void greenByButton() {
        doc.says(T, "button: it is pressed by who comes: over is green over seconds later, on at once.");
        for (int over : new int[] {0, 1, 7, 59}) {
            OverFirst x = made("town 2 2;walk 5;light 0 0 button round 60 over " + over + " for 3;");
            x.stay(4);
            due("over by a button of " + over, x.go(0, false), 4 + over + 5);
            x.undo();
            due("on by a button of " + over, x.go(1, false), 4 + 5);
        }
    }

    private void waits() {
        doc.says(T, "WAIT for a WAY at a second: how many till it is GREEN (button: over, 0).");
        for (int over : new int[] {0, 1, 30, 59}) {
            OverFirst x = made("town 2 2;light 0 0 button round 60 over " + over + " for 0;");
            for (int second : new int[] {0, 1, 59, 60, LAST}) {
                due("WAIT for over at a button", x.until(0, 0, 0, second), over);
                due("WAIT for on at a button", x.until(0, 0, 1, second), 0);
            }
        }
        OverFirst x = made("town 2 2;light 0 0 clock round 60 over 59 for 1;");
        due("the longest WAIT for over", x.until(0, 0, 0, 0), 59);
        due("WAIT at the last second but one", x.until(0, 0, 0, 58), 1);
        due("GREEN", x.until(0, 0, 0, 59), 0);
        due("WAIT for on", x.until(0, 0, 1, 59), 1);
        x = made("town 2 2;light 0 0 clock round 60 over 0 for 59;");
        due("the longest WAIT for on", x.until(0, 0, 1, 0), 59);
    }

    private void streets() {
        doc.says(T, "Crossing and the street take walk seconds (a run: run).");
        OverFirst x = made("town 3 3;walk 7;run 2;slow 30;runs 9;light 1 0 clock round 20 over 0 for 9;");
        due("walk", x.go(0, false), 7);
        due("WAIT till 9, then run", x.go(1, true), 11);
        due("run", x.go(1, true), 13);
        due("walk", x.go(0, false), 20);
        x = made("town 3 3;walk 2;run 7;runs 9;");
        due("a run may be slower", x.go(0, true), 7);
    }

    private void byHand() {
        doc.says(T, "By hand from where one is: GO (WAIT, then the street), RUN (likewise; not with a child; runs times in all since 0 0),"
            + " STAY so many seconds, LOOK (a hidden light one is at is KNOWN from then on).");
        OverFirst x = made("town 2 3;walk 5;run 2;runs 1;light 0 0 clock round 10 over 0 for 4;light 0 1 hidden round 10 over 0 for 9;");
        due("GO: WAIT 4, then the street", x.go(1, false), 9);
        due("GREEN at 9: RUN", x.go(1, true), 11);
        where("RUN", x, 0, 2, 11);
        x.undo();
        due("LOOK", x.look(), true);
        due("KNOWN", x.light(0, 1, 4), 1);
        due("STAY", x.stay(1), 10);
        due("WAIT 9, RUN: a light that is KNOWN is as told", x.go(1, true), 21);
        due("KNOWN from then on", x.light(0, 1, 4), 1);
        OverFirst child = made("town 2 3;walk 5;run 2;runs 9;child;");
        due("RUN with a child", child.go(1, true), -1);
        where("RUN with a child", child, 0, 0, 0);
        due("GO with a child", child.go(1, false), 5);
    }

    private void runsInAll() {
        doc.says(T, "runs times in all since 0 0");
        for (int runs = 0; runs <= 9; runs++) {
            OverFirst x = made("town 6 9;walk 5;run 2;runs " + runs + ";");
            int second = 0;
            for (int ran = 0; ran < runs; ran++) {
                due("runs yet", x.count(8), runs - ran);
                second += 2;
                due("RUN " + ran + " of " + runs, x.go(ran < 8 ? 1 : 0, true), second);
            }
            due("runs yet", x.count(8), 0);
            due("one RUN more", x.go(0, true), -1);
            due("but GO", x.go(0, false), second + 5);
            due("nor from there", x.go(0, true), -1);
        }
        OverFirst x = made("town 6 9;run 2;runs 1;bar 0 0 on;");
        due("a RUN that can't be is none", x.go(1, true), -1);
        due("so there's one yet", x.go(0, true), 2);
        x.undo();
        due("an undone RUN is none", x.go(0, true), 2);
    }

    private void undone() {
        doc.says(T, "UNDO: these, the last 16, one by one.");
        OverFirst x = made("town 6 9;walk 1;run 1;runs 9;light 0 1 hidden round 1 over 0 for 0;");
        x.go(1, true);
        x.look();
        for (int i = 1; i <= 15; i++) {
            due("what can be undone", x.count(13), i + 1);
            due("STAY", x.stay(i), 1 + i * (i + 1) / 2);
        }
        due("16 at most: not the RUN", x.count(13), 16);
        for (int i = 15; i >= 1; i--) {
            due("UNDO", x.undo(), true);
            where("UNDO", x, 0, 1, 1 + i * (i - 1) / 2);
            due("KNOWN", x.light(0, 1, 4), 1);
        }
        due("UNDO LOOK", x.undo(), true);
        due("not KNOWN", x.light(0, 1, 4), 0);
        due("the RUN is too long ago", x.undo(), false);
        where("UNDO", x, 0, 1, 1);
        due("runs yet", x.count(8), 8);
        due("what is undone is gone", x.stay(3), 4);
        due("UNDO", x.undo(), true);
        due("no more", x.undo(), false);
        for (int i = 0; i < 40; i++) {
            x.stay(1);
        }
        for (int i = 0; i < 16; i++) {
            due("UNDO of 40", x.undo(), true);
        }
        due("UNDO a 17th of 40", x.undo(), false);
        where("16 undone of 40", x, 0, 1, 1 + 24);
    }

    private void judge(OverFirst x, String walk, int want) {
        due("walk " + walk, Check.walk(x, walk), 0);
        due("judged " + walk, x.judged(), want);
    }

    private void judgedWalks() {
        doc.says(T, "JUDGED: the WALK from 0 0 at second 0: the first line (from 0) whose second is ahead of one's coming there,"
            + " or at which its WAY is not GREEN (button: over no sooner than over seconds behind one's coming).");
        OverFirst x = made("town 3 3;walk 5;run 1;light 0 0 clock round 10 over 8 for 4;light 1 0 button round 9 over 3 for 0;"
            + "light 0 1 police round 9 over 8 for 0;light 2 0 hidden round 10 over 0 for 3;");
        judge(x, "", -1);
        judge(x, "over 0;", -1);
        judge(x, "over 1;", -1);
        judge(x, "over 2;", 0);
        judge(x, "over 7;", 0);
        judge(x, "over 8;", -1);
        judge(x, "over 9999;", -1);
        judge(x, "on 1;", 0);
        judge(x, "on 2;", -1);
        judge(x, "on 7;", -1);
        judge(x, "on 8;", 0);
        judge(x, "on 2;over 6;", 1);
        judge(x, "on 2;over 7;", -1);
        judge(x, "over 0;over 7;", 1);
        judge(x, "over 0;over 8;", -1);
        judge(x, "over 0;over 9999;", -1);
        judge(x, "over 0;on 4;", 1);
        judge(x, "over 0;on 5;", -1);
        judge(x, "over 0;over 8;on 13;", -1);
        judge(x, "over 0;over 8;on 12;", 2);
        judge(x, "over 0;over 8;on 22;", 2);
        judge(x, "over 0;over 8;on 23;on 27;", 3);
        judge(x, "over 0;over 8;on 23;on 28;", -1);
        judge(x, "over 5;over 0;on 0;", 0);
        judge(x, "over 9;on 3;", 1);
        x.go(1, false);
        x.look();
        due("wherever one is", x.judged(), 1);
        OverFirst button = made("town 2 2;light 0 0 button round 60 over 0 for 0;");
        judge(button, "over 0;", -1);
        button = made("town 2 2;light 0 0 button round 60 over 59 for 0;");
        judge(button, "over 58;", 0);
        judge(button, "over 59;", -1);
        judge(button, "over 119;", -1);
        OverFirst never = made("town 2 2;light 0 0 clock round 3 over 0 for 0;light 1 0 clock round 3 over 0 for 3;");
        judge(never, "over 0;", 0);
        judge(never, "on 0;over 10;", -1);
        never = made("town 2 2;light 0 0 clock round 3 over 0 for 3;");
        judge(never, "on 3;", 0);
    }

    private void soonestWays() {
        doc.says(T, "SOONEST from a CORNER at a second: when one can be HOME, each light being as it is told; by which WAYS (over where that is as soon).");
        OverFirst x = made("town 2 2;walk 5;light 0 0 hidden round 10 over 0 for 4;light 0 1 hidden round 20 over 9 for 1;");
        due("over at 3", x.soonest(0, 0, 3, -1), 13);
        due("over at 4: till 10; on: there at 9, the one second", x.soonest(0, 0, 4, -1), 14);
        due("by on", x.soonest(0, 0, 4, 0), 1);
        due("then over", x.soonest(0, 0, 4, 1), 0);
        due("on at 5: too late there", x.soonest(0, 0, 5, -1), 20);
        due("so over", x.soonest(0, 0, 5, 0), 0);
        due("at 0: as soon by over, 10, as by on, 14", x.soonest(0, 0, 0, 0), 0);
        OverFirst even = made("town 3 3;walk 5;");
        for (int way = 0; way < 4; way++) {
            due("over where that is as soon", even.soonest(0, 0, 0, way), way < 2 ? 0 : 1);
        }
        OverFirst wait = made("town 2 2;walk 5;light 0 0 button round 9 over 3 for 0;light 0 1 button round 9 over 3 for 0;");
        due("as soon: 3 to wait here or there", wait.soonest(0, 0, 0, -1), 13);
        due("over", wait.soonest(0, 0, 0, 0), 0);
        OverFirst known = made("town 2 1;walk 5;light 0 0 hidden round 10 over 9 for 1;");
        due("as told, though not KNOWN", known.soonest(0, 0, 0, -1), 14);
    }

    private void latestSeconds() {
        doc.says(T, "LATEST: the last second, the least common multiple less 1 on at most, at which who has stayed there till then is HOME as soon.");
        OverFirst x = made("town 1 2;walk 5;light 0 0 clock round 60 over 0 for 59;");
        due("at once", x.latest(0, 0, 59), 59);
        due("59 on, the most", x.latest(0, 0, 60), 119);
        due("58 on", x.latest(0, 0, 61), 119);
        due("at 0", x.latest(0, 0, 0), 59);
        due("at the last second, 1,000,000 (40 of 60)", x.latest(0, 0, LAST), LAST + 19);
        due("HOME: who stays is there later", x.latest(0, 1, 7), 7);
        due("no light: the least common multiple is 1", made("town 1 2;").latest(0, 0, 7), 7);
        x = made("town 1 3;walk 5;light 0 0 clock round 48 over 0 for 47;light 0 1 clock round 50 over 0 for 49;");
        due("green at 47; there at 52, green at 99: so 47 would do, and 48 not", x.latest(0, 0, 0), 47);
        due("green at 95 and at 143; there at 148, green at 149", x.latest(0, 0, 48), 143);
        x = made("town 1 3;walk 1;light 0 1 clock round 60 over 0 for 59;");
        due("for a light further on", x.latest(0, 0, 0), 58);
        due("59 on", x.latest(0, 0, 59), 118);
        OverFirst button = made("town 2 1;walk 5;light 0 0 button round 60 over 9 for 0;");
        due("a button", button.latest(0, 0, 3), 3);
        OverFirst two = made("town 2 2;walk 5;light 0 0 clock round 20 over 0 for 10;light 1 0 clock round 20 over 0 for 15;light 0 1 clock round 20 over 0 for 2;");
        due("over till 9, there till 14, home at 20; on at 10, there at 15: later", two.latest(0, 0, 0), 9);
    }

    private void turns() {
        doc.says(T, "TURNING from 0 0: SOONEST by WAYS that turn (on behind over, over behind on) so often at most.");
        due("straight over", made("town 6 1;walk 1;").turning(5, 0), 10);
        due("straight on", made("town 1 9;walk 1;").turning(5, 0), 13);
        due("town 1 1", new OverFirst().turning(5, 0), 5);
        due("no straight way", made("town 2 2;").turning(0, 0), -1);
        due("one turn", made("town 2 2;").turning(0, 1), 20);
        due("one turn, over first barred", made("town 2 2;bar 0 0 over;").turning(0, 1), 20);
        due("one turn, on first barred", made("town 2 2;bar 0 0 on;").turning(0, 1), 20);
        StringBuilder stairs = new StringBuilder("town 6 9;walk 3;");
        for (int i = 0; i < 5; i++) {
            stairs.append("bar ").append(i).append(' ').append(i).append(" over;bar ").append(i).append(' ').append(i + 1).append(" on;");
        }
        OverFirst x = made(stairs.toString());
        for (int often = 0; often <= 12; often++) {
            due("10 turns, " + often + " at most", x.turning(1, often), often < 10 ? -1 : 40);
        }
        OverFirst slow = made("town 3 2;walk 5;light 1 0 button round 60 over 30 for 0;light 0 1 button round 60 over 20 for 0;");
        due("one turn: on, then over, over", slow.turning(0, 1), 35);
        due("two: over, on, over", slow.turning(0, 2), 15);
    }

    private void hiddenOnes() {
        doc.says(T, "By GOERS, hidden lights that are not KNOWN standing at any second of their round alike (as if that second were it), seen as one comes there:");
        OverFirst x = made("town 1 2;walk 5;light 0 0 hidden round 4 over 1 for 2;");
        for (int second : new int[] {0, 1, 2, 3, 4, LAST}) {
            due("not KNOWN: waits 0, 2, 1, 0 of 4 seconds, whenever one comes", x.mean(3, 0, 0, second), 5750);
        }
        x.look();
        int[] waits = {0, 2, 1, 0};
        for (int second = 0; second < 8; second++) {
            due("KNOWN: as told", x.mean(3, 0, 0, second), 5000 + 1000 * waits[second % 4]);
        }
        x.undo();
        due("not KNOWN again", x.mean(3, 0, 0, 1), 5750);
        OverFirst one = made("town 1 2;walk 5;light 0 0 hidden round 1 over 0 for 0;");
        due("a round of 1", one.mean(3, 0, 0, 9), 5000);
        OverFirst sixty = made("town 1 2;walk 5;light 0 0 hidden round 60 over 30 for 59;");
        due("a round of 60: waits 1 to 59", sixty.mean(0, 0, 0, 9), 5000 + 59 * 60 / 2 * 1000 / 60);
    }

    private void fiveGoers() {
        doc.says(T, "0 over where he can, else on; 1 on where he can, else over; 2 whichever's WAIT is less, over if alike; 3 the best;"
            + " 4 and on: over if the rule's E is not 0, else on (the other one if he can't).");
        String lights = "town 2 2;walk 5;light 0 0 clock round 10 over 0 for 4;light 1 0 button round 9 over 0 for 0;light 0 1 button round 9 over 2 for 0;rule a 1;rule b 0;";
        OverFirst x = made(lights);
        due("0 at 0", x.mean(0, 0, 0, 0), 10000);
        due("0 at 4: waits 6", x.mean(0, 0, 0, 4), 16000);
        due("1 at 0: waits 4, then 2", x.mean(1, 0, 0, 0), 16000);
        due("1 at 4", x.mean(1, 0, 0, 4), 12000);
        due("2 at 3: over", x.mean(2, 0, 0, 3), 10000);
        due("2 at 4: on", x.mean(2, 0, 0, 4), 12000);
        due("3 at 4: on", x.mean(3, 0, 0, 4), 12000);
        due("3 at 8: over, 2 later as on", x.mean(3, 0, 0, 8), 12000);
        due("3 at 9: over, 1 later", x.mean(3, 0, 0, 9), 11000);
        due("2 at 9: on", x.mean(2, 0, 0, 9), 12000);
        due("4 at 4: over", x.mean(4, 0, 0, 4), 16000);
        due("5 at 0: on", x.mean(5, 0, 0, 0), 16000);
        goersAtHidden();
        String dead = "town 2 2;walk 5;bar 1 0 on;";
        due("over if alike: none has a light", made(dead).mean(2, 0, 0, 0), -1);
        due("over if alike: a button of 0", made(dead + "light 0 0 button round 3 over 0 for 0;").mean(2, 0, 0, 0), -1);
        due("on: a button of 1", made(dead + "light 0 0 button round 3 over 1 for 0;").mean(2, 0, 0, 0), 10000);
        for (int goer = 0; goer < 6; goer++) {
            due("he can't go over", made("town 2 2;walk 5;bar 0 0 over;rule a 1;rule b 0;").mean(goer, 0, 0, 0), 10000);
            due("he can't go on", made("town 2 2;walk 5;bar 0 0 on;rule a 1;rule b 0;").mean(goer, 0, 0, 0), 10000);
            due("over is never green", made("town 2 2;walk 5;light 0 0 hidden round 2 over 0 for 0;rule a 1;rule b 0;").mean(goer, 0, 0, 0), 10000);
            due("on is never green", made("town 2 2;walk 5;light 0 0 hidden round 2 over 0 for 2;rule a 1;rule b 0;").mean(goer, 0, 0, 0), 10000);
            due("nor on", made("town 2 2;walk 5;bar 0 0 on;bar 0 0 over;rule a 1;rule b 0;").mean(goer, 0, 0, 0), -1);
        }
    }

    /** Over is green at seconds 0 and 1 of 5; who goes on stands 3 seconds more at 0 1. */
    private void goersAtHidden() {
        OverFirst x = made("town 2 2;walk 5;light 0 0 hidden round 5 over 0 for 2;light 0 1 button round 9 over 3 for 0;rule a over<on;rule b on<over;");
        int[] means = {10000 + (3 + 2 + 1) * 1000 / 5, 13000 + (2 + 1) * 1000 / 5, (2 * 10 + 3 * 13) * 1000 / 5, (2 * 10 + 13 + 12 + 11) * 1000 / 5,
            (2 * 10 + 3 * 13) * 1000 / 5, (15 + 14 + 13 + 12 + 11) * 1000 / 5};
        int[] worsts = {13, 15, 13, 13, 13, 15};
        for (int goer = 0; goer < means.length; goer++) {
            due("MEAN of " + goer + " at a hidden light", x.mean(goer, 0, 0, 7), means[goer]);
            due("WORST of " + goer + " at a hidden light", x.worst(goer, 0, 0, 7), worsts[goer]);
        }
    }

    private void means() {
        doc.says(T, "What he then takes till HOME: MEAN, in thousandths, cut at each hidden CORNER over its seconds;");
        String three = "town 1 4;walk 1;light 0 0 hidden round 3 over 0 for 1;light 0 1 hidden round 3 over 1 for 1;light 0 2 hidden round 3 over 2 for 1;";
        OverFirst x = made(three);
        due("4000 / 3, cut", x.mean(0, 0, 2, 0), 1333);
        due("(3 * 2333 + 1000) / 3, cut", x.mean(0, 0, 1, 0), 2666);
        due("(3 * 3666 + 1000) / 3, cut at each: 3999, not 4000", x.mean(0, 0, 0, 0), 3999);
        due("HOME", x.mean(0, 0, 3, 0), 0);
    }

    private void theBest() {
        doc.says(T, "the best one chooses the least MEAN (where he can't be left without a way); over if alike.");
        OverFirst x = made("town 3 2;walk 5;bar 2 0 on;bar 1 0 on;light 0 0 clock round 60 over 0 for 1;");
        due("over would be green, but leaves him without a way", x.mean(3, 0, 0, 0), 16000);
        due("so he waits for on", x.choice(0, 0, 0, 0), 1);
        due("over if alike", made("town 2 2;").choice(0, 0, 0, 0), 0);
        OverFirst alike = made("town 2 2;walk 5;light 1 0 hidden round 4 over 0 for 2;light 0 1 clock round 4 over 0 for 2;");
        due("mean of waits 2, 1, 0, 0: 750; on: there at 5, second 1, green: less", alike.choice(0, 0, 0, 0), 1);
        OverFirst cut = made("town 2 2;walk 5;light 1 0 hidden round 3 over 0 for 1;light 0 1 hidden round 3 over 0 for 2;");
        due("alike: 333 by over, 333 by on", cut.choice(0, 0, 0, 0), 0);
        OverFirst none = made("town 2 2;bar 1 0 on;bar 0 1 over;");
        due("without a way", none.mean(3, 0, 0, 0), -1);
    }

    private void worsts() {
        doc.says(T, "WORST: likewise the most over its seconds, in seconds; the best one chooses the least WORST.");
        OverFirst x = made("town 2 2;walk 5;light 1 0 hidden round 60 over 0 for 10;light 0 1 button round 60 over 5 for 0;");
        due("by MEAN over: 55 seconds in 60, cut", x.mean(3, 0, 0, 0), 10916);
        due("by WORST on: 5 against 10", x.worst(3, 0, 0, 0), 15);
        due("over first", x.worst(0, 0, 0, 0), 20);
        due("on first", x.worst(1, 0, 0, 0), 15);
        due("HOME", x.worst(3, 1, 1, 0), 0);
        x.go(0, false);
        x.look();
        due("KNOWN: at 5, 5 to wait", x.worst(0, 0, 0, 0), 15);
        due("KNOWN: at 10 none", x.worst(3, 0, 0, 5), 10);
    }

    private void choices() {
        doc.says(T, "CHOICE of the best one (by MEAN) at a CORNER at a second, a hidden light not KNOWN standing at such a second of its round.");
        OverFirst x = made("town 2 2;walk 5;light 0 0 hidden round 10 over 0 for 4;light 1 0 button round 9 over 0 for 0;light 0 1 button round 9 over 2 for 0;");
        int[] ways = {0, 0, 0, 0, 1, 1, 1, 1, 0, 0};
        for (int at = 0; at < 10; at++) {
            for (int second : new int[] {0, 7, LAST}) {
                due("at " + at + ", second " + second, x.choice(0, 0, second, at), ways[at]);
            }
        }
        x.look();
        for (int second = 0; second < 20; second++) {
            due("KNOWN, second " + second, x.choice(0, 0, second, 0), ways[second % 10]);
        }
        OverFirst mean = made("town 2 2;walk 5;light 1 0 hidden round 60 over 0 for 10;light 0 1 button round 60 over 5 for 0;");
        due("by MEAN, not by WORST", mean.choice(0, 0, 0, 0), 0);
    }

    private void gaps() {
        doc.says(T, "GAP: MEAN of GOER 2 less MEAN of GOER 3.");
        OverFirst x = made("town 2 2;walk 5;light 0 0 clock round 10 over 0 for 4;light 1 0 button round 9 over 0 for 0;light 0 1 button round 9 over 2 for 0;");
        due("at 3: none", x.gap(0, 0, 3), 0);
        due("at 8: alike", x.gap(0, 0, 8), 0);
        due("at 9: 12 less 11", x.gap(0, 0, 9), 1000);
        due("at HOME", x.gap(1, 1, 9), 0);
    }

    private void watches() {
        doc.says(T, "WATCH of a hidden light that is not KNOWN: the MEAN of GOER 3 from 0 0 at a second, less what it is on the mean (cut)"
            + " over all seconds of its round, if it were KNOWN at which of them it stands at second 0;");
        String town = "town 2 2;walk 5;light 1 0 hidden round 3 over 0 for 1;light 0 1 button round 9 over 0 for 0;";
        OverFirst x = made(town + "bar 0 0 on;");
        due("one way: 10333 less (11000 + 10000 + 10000) / 3, cut", x.watch(1, 0, 0), 0);
        OverFirst two = made("town 2 2;walk 5;light 1 0 hidden round 10 over 0 for 5;light 0 1 button round 9 over 1 for 0;");
        due("unwatched by on: 11, as over is 1500 on the mean", two.mean(3, 0, 0, 0), 11000);
        due("watched: waits 0 at five of ten, else 1: 10500", two.watch(1, 0, 0), 500);
        for (int second = 0; second < 12; second++) {
            due("from any second alike, all of its seconds being met", two.watch(1, 0, second), 500);
        }
        OverFirst apart = made("town 2 2;walk 5;light 0 0 clock round 10 over 0 for 9;light 1 0 hidden round 10 over 0 for 5;light 0 1 button round 9 over 1 for 0;");
        due("with a clock of its round: at 9 on is green, over 1 later", apart.mean(3, 0, 0, 9), 11000);
        due("watched: over 1 later is never less than 11", apart.watch(1, 0, 9), 0);
        due("watched at 0: over is green, on 9 later", apart.watch(1, 0, 0), 0);
        OverFirst cut = made("town 1 4;walk 1;light 0 0 hidden round 3 over 0 for 1;light 0 1 hidden round 3 over 1 for 1;light 0 2 hidden round 3 over 2 for 1;");
        due("by cuts below 0: 3999 less (3666 * 2 + 4666) / 3", cut.watch(0, 0, 0), 3999 - (3666 * 2 + 4666) / 3);
        due("the last one: 3999 less ((3666 + 3666 + 4333) ..) / 3", cut.watch(0, 2, 0), 3999 - lastKnown());
        two.go(0, false);
        two.look();
        due("KNOWN", two.watch(1, 0, 0), -1);
        watchesWithClocks();
    }

    private void watchesWithClocks() {
        OverFirst x = made("town 2 2;walk 5;light 1 0 hidden round 3 over 0 for 2;light 0 1 clock round 4 over 0 for 2;");
        for (int second = 0; second < 12; second++) {
            // the clock's wait is 1: then waits of 2, 1 and 0 are 1, 1 and 0, if one knows
            due("by where the clock stands as one comes", x.watch(1, 0, second), (second + 5) % 4 == 3 ? 11000 - 32000 / 3 : 0);
        }
        OverFirst alike = made("town 2 2;walk 5;light 1 0 hidden round 4 over 0 for 2;light 0 1 clock round 4 over 0 for 2;");
        due("the clock's wait is 2: the hidden one's is 0, 0, 1, 2", alike.watch(1, 0, 1), 0);
        alike.worthiest(1);
        alike.go(0, false);
        alike.look();
        for (int second = 0; second < 8; second++) {
            due("as told once it is KNOWN, whatever was watched", alike.mean(3, 0, 0, second), 10000);
        }
    }

    /** Two hidden ones of round 3 whose on is green in two seconds of three, then a clock of which it is known where it stands. */
    private static int lastKnown() {
        int all = 0;
        for (int stand = 0; stand < 3; stand++) {
            int first = 0;
            for (int a = 0; a < 3; a++) {
                int second = 0;
                for (int b = 0; b < 3; b++) {
                    int come = (a == 0 ? 1 : 0) + 1 + (b == 0 ? 1 : 0) + 1;
                    int wait = (come + stand) % 3 == 0 ? 1 : 0;
                    second += 1000 * ((b == 0 ? 1 : 0) + 1 + wait + 1);
                }
                first += 1000 * ((a == 0 ? 1 : 0) + 1) + second / 3;
            }
            all += first / 3;
        }
        return all / 3;
    }

    private void worthiestOnes() {
        doc.says(T, "WORTHIEST: the light whose WATCH is most, of equal ones the first (by rows).");
        String even = "town 2 2;walk 5;light 1 0 hidden round 10 over 0 for 5;light 0 1 hidden round 10 over 0 for 5;";
        OverFirst x = made(even);
        due("alike", x.watch(1, 0, 0), x.watch(0, 1, 0));
        due("worth something", x.watch(1, 0, 0) > 0, true);
        due("by rows: 1 0 ahead of 0 1", x.worthiest(0), 1);
        OverFirst nothing = made("town 3 3;light 0 2 hidden round 9 over 0 for 3;light 2 1 hidden round 9 over 0 for 3;light 1 1 hidden round 1 over 0 for 1;bar 0 0 on;bar 1 0 on;");
        due("on the one way only: the first by rows", nothing.worthiest(0), 8 * 1 + 1);
        OverFirst later = made("town 2 3;walk 5;bar 0 0 on;light 0 2 hidden round 10 over 0 for 5;light 1 0 hidden round 2 over 0 for 0;");
        due("0 2 can't be come to: both are worth 0", later.worthiest(0), 1);
        OverFirst cut = made("town 1 5;walk 1;light 0 0 police round 1 over 0 for 0;light 0 1 hidden round 3 over 0 for 1;light 0 2 hidden round 3 over 1 for 1;light 0 3 hidden round 3 over 2 for 1;");
        int best = 0;
        for (int y = 2; y <= 3; y++) {
            best = cut.watch(0, y, 0) > cut.watch(0, 1 + best, 0) ? y - 1 : best;
        }
        due("most, be it below 0", cut.worthiest(0), 8 * (1 + best));
        due("at 0 0", made("town 1 2;light 0 0 hidden round 4 over 0 for 2;").worthiest(0), 0);
        due("at 0 0 and at HOME, both worth nothing", made("town 1 2;light 0 1 hidden round 4 over 0 for 2;light 0 0 hidden round 4 over 0 for 2;").worthiest(0), 0);
        due("at HOME", made("town 1 2;light 0 1 hidden round 4 over 0 for 2;").worthiest(0), 8);
        OverFirst known = made(even);
        known.go(0, false);
        known.look();
        due("one is KNOWN: the other one", known.worthiest(0), 8);
        known.undo();
        due("not KNOWN", known.worthiest(0), 1);
    }

    private void oddsBy() {
        doc.says(T, "ODDS of a GOER, from 0 0 at a second, to be HOME by another one: in millionths, cut at each hidden CORNER over its seconds; the best one chooses by MEAN.");
        OverFirst x = made("town 1 3;walk 1;light 0 0 hidden round 3 over 0 for 1;light 0 1 hidden round 3 over 1 for 1;");
        due("by the soonest: 2 of 3 and 2 of 3, cut at each", x.odds(0, 5, 7), (666666 * 2) / 3);
        due("one later", x.odds(0, 5, 8), (1000000 * 2 + 666666) / 3);
        due("two later: all", x.odds(0, 5, 9), 1000000);
        due("one sooner: none", x.odds(0, 5, 6), 0);
        due("by the second itself", x.odds(0, 5, 5), 0);
        due("ahead of it", x.odds(0, 5, 0), 0);
        due("the last ones", x.odds(0, LAST, LAST), 0);
        OverFirst best = made("town 2 2;walk 5;light 1 0 hidden round 60 over 0 for 10;light 0 1 button round 60 over 5 for 0;");
        due("by MEAN over: green on in 50 of 60, and 5 more are 5 or less to wait", best.odds(3, 0, 15), 55 * 1000000 / 60);
        due("on would be sure", best.odds(1, 0, 15), 1000000);
        due("HOME at once", new OverFirst().odds(3, 9, 9), 1000000);
        due("HOME at once, too late", new OverFirst().odds(3, 9, 8), 0);
        due("HOME at the last second", new OverFirst().odds(3, LAST, LAST), 1000000);
        OverFirst clock = made("town 1 3;walk 5;light 0 0 hidden round 4 over 0 for 2;light 0 1 clock round 20 over 0 for 8;");
        due("at the clock at 9, 8, 7 and 7: three of four", clock.odds(3, 2, 13), 750000);
        due("all by 14", clock.odds(3, 2, 14), 1000000);
        due("none by 12", clock.odds(3, 2, 12), 0);
        due("from 0 all wait for the clock", clock.odds(3, 0, 13), 1000000);
        OverFirst when = made("town 2 3;walk 5;bar 0 0 over;light 1 1 clock round 20 over 15 for 15;light 0 2 clock round 20 over 12 for 9;");
        due("at 0 1 at 5: over, green on at 10", when.odds(3, 0, 15), 1000000);
        due("at 0 1 at 10: on, green over at 15", when.odds(3, 5, 20), 1000000);
        due("no sooner", when.odds(3, 5, 19), 0);
        due("a round of 1", made("town 1 2;light 0 0 hidden round 1 over 0 for 0;").odds(3, 0, 10), 1000000);
        OverFirst longest = made("town 1 2;walk 30;light 0 0 hidden round 60 over 7 for 59;");
        due("the longest wait", longest.odds(3, 4, 4 + 89), 1000000);
        due("all but the longest", longest.odds(3, 4, 4 + 88), 59 * 1000000 / 60);
        OverFirst buttons = made("town 6 1;walk 30;light0 0button round60over59for0;light1 0button round60over59for0;light2 0button round60over59for0;"
            + "light3 0button round60over59for0;light4 0button round60over59for0;");
        due("the longest wait at each CORNER", buttons.odds(3, 0, 445), 1000000);
        due("a second less", buttons.odds(3, 0, 444), 0);
        due("no lights, the longest streets", made("town 6 9;walk 30;").odds(0, 0, 390), 1000000);
    }

    private void pace(OverFirst x, int second, int... dues) {
        for (int what = 0; what < dues.length; what++) {
            due("pace(" + second + ", " + what + ")", x.pace(second, what), dues[what]);
        }
        due("pace beyond", x.pace(second, dues.length), -1);
    }

    private static OverFirst walked(String town, String walk) {
        OverFirst x = made(town);
        if (Check.walk(x, walk) != 0) {
            throw new IllegalStateException("the test's own walk has a fault: " + walk);
        }
        return x;
    }

    private void paces() {
        doc.says(T, "PACE along the WALK's WAYS from 0 0 at a second, each light as it is told: each street in any whole seconds from run to slow (walk alone if run is above slow);");
        String light = "light 0 1 clock round 60 over 0 for ";
        pace(walked("town 1 3;walk 5;run 5;slow 9;" + light + "9;", "on 0;on 0;"), 0, 0, 14, 9, 5);
        pace(walked("town 1 3;walk 5;run 5;slow 9;" + light + "10;", "on 0;on 0;"), 0, 1, 15, 5, 5);
        pace(walked("town 1 3;walk 5;run 7;slow 7;", "on 0;on 0;"), 0, 0, 14, 7, 7);
        pace(walked("town 1 3;walk 5;run 8;slow 7;", "on 0;on 0;"), 0, 0, 10, 5, 5);
        pace(walked("town 1 3;walk 5;run 1;slow 4;runs 2;", "on 0;on 0;"), 0, 0, 2, 1, 1);
        pace(walked("town 1 3;walk 5;run 6;slow 30;" + light + "30;", "on 0;on 0;"), 0, 0, 36, 30, 6);
        pace(walked("town 1 3;walk 5;run 6;slow 30;" + light + "31;", "on 0;on 0;"), 0, 1, 37, 6, 6);
        pace(walked("town 2 2;walk 5;light 0 0 hidden round 9 over 8 for 1;light 1 0 button round 60 over 5 for 0;", "over 0;on 0;"), 0, 1, 18, 5, 5);
        pace(walked("town 3 1;walk 5;light 1 0 button round 60 over 4 for 0;", "over 0;over 0;"), LAST, 1, LAST + 14, 5, 5);
        pace(walked("town 3 1;walk 5;light 1 0 button round 60 over 0 for 0;", "over 0;over 0;"), 0, 0, 10, 5, 5);
        OverFirst x = made("town 3 1;walk 5;light 1 0 hidden round 60 over 4 for 1;");
        goodWalk(x, "over 0;over 0;", 2);
        x.go(0, false);
        x.stay(9);
        pace(x, 0, 1, 69, 5, 5);
        pace(x, 59, 0, 69, 5, 5);
    }

    private void paceRuns() {
        doc.says(T, "in less than walk in runs of them at most (with a child none):");
        for (int runs = 0; runs <= 3; runs++) {
            String town = "town 1 4;walk 5;run 4;slow 6;runs " + runs + ";";
            pace(walked(town, "on 0;on 0;on 0;"), 0, 0, 15 - runs, runs > 0 ? 4 : 5, runs > 1 ? 4 : 5, runs > 2 ? 4 : 5);
            pace(walked(town + "child;", "on 0;on 0;on 0;"), 0, 0, 15, 5, 5, 5);
        }
        OverFirst none = walked("town 1 4;walk 5;run 3;slow 4;runs 2;", "on 0;on 0;on 0;");
        due("three streets, all of them runs, two allowed", none.pace(0, 0), -1);
        due("nor the end", none.pace(0, 1), -1);
        due("nor a street", none.pace(0, 2), -1);
        pace(walked("town 1 4;walk 5;run 3;slow 4;runs 3;", "on 0;on 0;on 0;"), 0, 0, 9, 3, 3, 3);
        due("with a child none of them", walked("town 1 4;walk 5;run 3;slow 4;runs 9;child;", "on 0;").pace(0, 0), -1);
        OverFirst x = made("town 1 4;walk 5;run 4;slow 6;runs 1;");
        goodWalk(x, "on 0;on 0;", 2);
        x.go(1, true);
        pace(x, 0, 0, 9, 4, 5);
    }

    private void paceOfEqualOnes() {
        doc.says(T, "so that one stands (WAIT above 0) at the fewest CORNERS, 0 0 too; of equal ones the soonest HOME, or at the WALK's end; then the first row of seconds.");
        String at0 = "light 0 0 clock round 10 over 0 for 3;";
        pace(walked("town 1 3;walk 5;slow 9;" + at0, "on 0;on 0;"), 0, 1, 13, 5, 5);
        pace(walked("town 1 3;walk 5;slow 9;" + at0, "on 0;on 0;"), 2, 1, 13, 5, 5);
        pace(walked("town 1 3;walk 5;slow 9;" + at0, "on 0;on 0;"), 3, 0, 13, 5, 5);
        // a stand fewer is worth more than any seconds: 20 there, or 5 and 15 to stand
        pace(walked("town 1 4;walk 5;slow 30;light 0 1 clock round 60 over 0 for 20;light 0 2 clock round 60 over 20 for 40;", "on 0;on 0;on 0;"),
            0, 0, 65, 30, 30, 5);
        // at the walk's end, be it not HOME; its last corner's light is not asked
        pace(walked("town 2 4;walk 5;slow 30;light 0 1 clock round 60 over 0 for 59;", "on 0;"), 0, 0, 5, 5);
        // the first row: 4 then 6, or 5 and 5, or 6 and 4
        pace(walked("town 1 4;walk 4;slow 6;light 0 2 clock round 60 over 0 for 10;", "on 0;on 0;on 0;"), 0, 0, 14, 4, 6, 4);
        pace(walked("town 1 4;walk 5;run 3;slow 7;runs 1;", "on 0;on 0;on 0;"), 0, 0, 13, 3, 5, 5);
        pace(walked("town 1 4;walk 5;run 3;slow 7;runs 1;light 0 2 clock round 60 over 0 for 10;", "on 0;on 0;on 0;"), 0, 0, 13, 5, 5, 3);
        due("never GREEN", walked("town 1 2;light 0 0 clock round 9 over 0 for 9;", "on 0;").pace(0, 0), -1);
        due("never GREEN further on", walked("town 1 3;light 0 1 clock round 9 over 0 for 9;", "on 0;on 0;").pace(0, 1), -1);
    }

    /** Whichever runs one has used, and however one stands, each corner's light is met at its own second. */
    private void paceByLights() {
        String first = "town 1 4;walk 5;light 0 0 clock round 12 over 0 for 3;";
        pace(walked(first + "light 0 1 clock round 12 over 0 for 8;", "on 0;on 0;on 0;"), 0, 1, 18, 5, 5, 5);
        pace(walked(first + "slow 9;light 0 1 clock round 12 over 6 for 4;light 0 2 clock round 12 over 5 for 11;", "on 0;on 0;on 0;"), 0, 1, 21, 7, 6, 5);
        pace(walked("town 1 4;walk 5;run 4;runs 1;light 0 2 clock round 6 over 5 for 5;", "on 0;on 0;on 0;"), 0, 0, 14, 5, 5, 4);
        String far = "on0;on0;on0;on0;on0;on0;on0;on0;over0;over0;over0;over0;over0;";
        for (int round = 11; round <= 20; round++) {
            String town = "town 6 9;walk 5;run 4;runs 9;light 2 8 clock round " + round + " over " + 50 % round + " for 1;";
            // green at 50 alone: ten streets are walked, the last three run
            pace(walked(town, far), 0, 0, 62, 5, 5, 5, 5, 5, 5, 5, 5, 5, 5, 4, 4, 4);
        }
        pace(walked("town 6 9;walk 5;run 4;runs 9;", far), 0, 0, 56, 4, 4, 4, 4, 4, 4, 4, 4, 4, 5, 5, 5, 5);
    }

    private void triedTen() {
        doc.says(T, "TRIED at a button with a round: pressed, so many seconds waited (0 to 59): 10 at most.");
        OverFirst x = made("town 2 1;light 0 0 button round 60 over 9 for 0;light 1 0 button round 1 over 0 for 0;");
        due("-1", x.tried(0, 0, true, -1), false);
        due("60", x.tried(0, 0, true, 60), false);
        due("-1, not pressed", x.tried(0, 0, false, -1), false);
        due("60, not pressed", x.tried(0, 0, false, 60), false);
        due("none of these", x.count(10), 0);
        for (int i = 0; i < 10; i++) {
            due("TRIED", x.tried(i % 2, 0, i % 3 == 0, i == 4 ? 59 : 0), true);
            due("how many", x.count(10), i + 1);
        }
        due("an 11th", x.tried(0, 0, true, 0), false);
        due("an 11th at the other one", x.tried(1, 0, false, 0), false);
        due("10 at most", x.count(10), 10);
    }

    private void doesIs(String what, OverFirst x, int over, int on, long above, long below) {
        due(what + ", above", x.does(over, on, 0), above);
        due(what + ", below", x.does(over, on, 1), below);
    }

    private void doesIt() {
        doc.says(T, "DOES: it does something, as likely as not ahead: then, pressed, each wait from 0 to its over is alike; if not each from 0 to its round less 1"
            + " (not pressed: either way alike, so nothing is told).");
        String town = "town 2 1;light 0 0 button round 8 over 3 for 0;light 1 0 button round 8 over 7 for 0;";
        OverFirst x = made(town);
        doesIs("nothing TRIED", x, 0, 0, 1, 2);
        x.tried(0, 0, false, 59);
        x.tried(0, 0, false, 0);
        doesIs("not pressed", x, 0, 0, 1, 2);
        x.tried(0, 0, true, 3);
        doesIs("a wait of its over: 1 of 4 against 1 of 8", x, 0, 0, 2, 3);
        doesIs("at the other one nothing is TRIED", x, 1, 0, 1, 2);
        x.tried(0, 0, true, 0);
        doesIs("and none: 4 of 5", x, 0, 0, 4, 5);
        x.tried(0, 0, true, 4);
        doesIs("a wait above its over: it does nothing", x, 0, 0, 0, 1);
        x.tried(0, 0, true, 7);
        doesIs("a wait of its round less 1: it does nothing", x, 0, 0, 0, 1);
        x.tried(0, 0, true, 8);
        doesIs("a wait of its round: it can't be", x, 0, 0, -1, -1);
        x.tried(1, 0, true, 7);
        doesIs("over is its round less 1: alike", x, 1, 0, 1, 2);
        x.tried(1, 0, true, 8);
        doesIs("neither", x, 1, 0, -1, -1);
        x = made("town 1 1;light 0 0 button round 1 over 0 for 1;");
        x.tried(0, 0, true, 0);
        doesIs("a round of 1", x, 0, 0, 1, 2);
        x.tried(0, 0, false, 1);
        doesIs("not pressed, beyond its round", x, 0, 0, 1, 2);
        x = made("town 1 1;light 0 0 button round 60 over 58 for 0;");
        for (int i = 0; i < 10; i++) {
            x.tried(0, 0, true, 58);
        }
        long so = BigInteger.valueOf(60).pow(10).longValueExact();
        long all = BigInteger.valueOf(60).pow(10).add(BigInteger.valueOf(59).pow(10)).longValueExact();
        doesIs("60 and 59 to the 10th", x, 0, 0, so, all);
    }

    private void wave(String what, OverFirst x, int over, int on, int many, boolean both, int... dues) {
        for (int i = 0; i < dues.length; i++) {
            due(what + ": wave(" + over + ", " + on + ", " + many + ", " + both + ", " + i + ")", x.wave(over, on, many, both, i), dues[i]);
        }
        due(what + ": beyond", x.wave(over, on, many, both, many), -1);
    }

    private void waves() {
        doc.says(T, "WAVE of 2 to 4 lights (clocks, hidden ones) of one round, one behind the other on: with new beginnings of green for on (as long as each is),"
            + " the first one's staying: of all seconds of the round those at which who sets out there, on at walk, finds each GREEN as he comes: the most;"
            + " the beginnings (seconds of the round at which on begins to be green; the first row).");
        String four = "town 1 5;walk 3;light 0 0 clock round 10 over 0 for 6;light 0 1 hidden round 10 over 5 for 6;light 0 2 clock round 10 over 2 for 6;"
            + "light 0 3 hidden round 10 over 9 for 6;";
        OverFirst x = made(four);
        due("of one", x.wave(0, 0, 1, false, 0), -1);
        wave("of two: on at 6, there at 9", x, 0, 0, 2, false, 4, 9);
        wave("of three: there at 12", x, 0, 0, 3, false, 4, 9, 2);
        wave("of four: there at 15", x, 0, 0, 4, false, 4, 9, 2, 5);
        due("of five", x.wave(0, 0, 5, false, 0), -1);
        wave("from the second one: 5 + 6 is 1 of its round", x, 0, 1, 3, false, 4, 4, 7);
        due("none behind the last one", x.wave(0, 3, 2, false, 0), -1);
        due("beyond the town", x.wave(0, 4, 2, false, 0), -1);
        due("three of which the last is none", x.wave(0, 2, 3, false, 0), -1);
        wave("the last two", x, 0, 2, 2, false, 4, 1);
        wave("walk 30 of a round of 10", made("town 1 2;walk 30;light 0 0 clock round 10 over 0 for 6;light 0 1 clock round 10 over 0 for 6;"), 0, 0, 2, false, 4, 6);
        wave("longer green there: the first row that holds all", made("town 1 2;walk 3;light 0 0 clock round 10 over 0 for 6;light 0 1 clock round 10 over 0 for 4;"),
            0, 0, 2, false, 4, 7);
        wave("shorter green there", made("town 1 2;walk 3;light 0 0 clock round 10 over 0 for 6;light 0 1 clock round 10 over 0 for 7;"), 0, 0, 2, false, 3, 0);
        wave("a round of 60", made("town 1 2;walk 30;light 0 0 clock round 60 over 59 for 30;light 0 1 clock round 60 over 0 for 30;"), 0, 0, 2, false, 30, 59);
        wave("a round of 1", made("town 1 2;walk 3;light 0 0 clock round 1 over 0 for 0;light 0 1 hidden round 1 over 0 for 0;"), 0, 0, 2, false, 1, 0);
        due("not of one round", made("town 1 2;light 0 0 clock round 10 over 0 for 6;light 0 1 clock round 20 over 0 for 6;").wave(0, 0, 2, false, 0), -1);
        due("a button", made("town 1 2;light 0 0 clock round 10 over 0 for 6;light 0 1 button round 10 over 0 for 6;").wave(0, 0, 2, false, 0), -1);
        due("police", made("town 1 2;light 0 0 police round 10 over 0 for 6;light 0 1 clock round 10 over 0 for 6;").wave(0, 0, 2, false, 0), -1);
        due("one behind the other over is none", made("town 2 1;light 0 0 clock round 10 over 0 for 6;light 1 0 clock round 10 over 0 for 6;").wave(0, 0, 2, false, 0), -1);
        OverFirst nine = made("town 1 9;walk 1;light 0 5 clock round 4 over 0 for 2;light 0 6 clock round 4 over 0 for 2;light 0 7 clock round 4 over 0 for 2;light 0 8 clock round 4 over 0 for 2;");
        wave("to the last row", nine, 0, 5, 4, false, 2, 3, 0, 1);
        due("of five that are there", made("town 1 9;walk 1;light 0 4 clock round 4 over 0 for 2;light 0 5 clock round 4 over 0 for 2;light 0 6 clock round 4 over 0 for 2;"
            + "light 0 7 clock round 4 over 0 for 2;light 0 8 clock round 4 over 0 for 2;").wave(0, 4, 5, false, 0), -1);
        due("beyond it", nine.wave(0, 6, 4, false, 0), -1);
    }

    private void wavesBoth() {
        doc.says(T, "BOTH: and those at which who sets out at the last one, back at walk, does: the most both together.");
        String two = "light 0 0 clock round 10 over 5 for 5;light 0 1 clock round 10 over 0 for 5;";
        wave("half a round away: all fit both ways", made("town 1 2;walk 5;" + two), 0, 0, 2, true, 10, 5);
        wave("a round away: all fit both ways", made("town 1 2;walk 10;" + two), 0, 0, 2, true, 10, 0);
        wave("there alone", made("town 1 2;walk 2;" + two), 0, 0, 2, false, 5, 2);
        wave("two away: 5 and 1 or 3 and 3 or 1 and 5", made("town 1 2;walk 2;" + two), 0, 0, 2, true, 6, 0);
        OverFirst x = made("town 2 3;walk 2;light 0 0 clock round 10 over 8 for 5;light 0 1 clock round 10 over 0 for 5;light 0 2 clock round 10 over 0 for 9;"
            + "light 1 0 clock round 10 over 8 for 6;light 1 1 clock round 10 over 0 for 6;");
        wave("there", x, 0, 0, 2, false, 5, 5);
        wave("both", x, 0, 0, 2, true, 6, 1);
        wave("there again", x, 0, 0, 2, false, 5, 5);
        wave("three, the last one green for a second", x, 0, 0, 3, false, 1, 1, 7);
        wave("the next column", x, 1, 0, 2, false, 4, 6);
        wave("three, again", x, 0, 0, 3, false, 1, 1, 7);
        wave("three rounds of one", made("town 1 3;walk 30;light 0 0 hidden round 1 over 0 for 0;light 0 1 hidden round 1 over 0 for 0;light 0 2 hidden round 1 over 0 for 0;"),
            0, 0, 3, true, 2, 0, 0);
    }

    private void wavesAlwaysOrNever() {
        doc.says(T, "(A light whose for is 0 is GREEN always, whose for is its round never.)");
        String first = "town 1 4;walk 3;light 0 0 clock round 10 over 2 for 6;";
        wave("always, behind", made(first + "light 0 1 clock round 10 over 5 for 0;"), 0, 0, 2, false, 4, 0);
        wave("always, both", made(first + "light 0 1 clock round 10 over 5 for 0;"), 0, 0, 2, true, 8, 0);
        wave("never, behind", made(first + "light 0 1 clock round 10 over 5 for 10;"), 0, 0, 2, false, 0, 0);
        wave("never, both", made(first + "light 0 1 clock round 10 over 5 for 10;"), 0, 0, 2, true, 0, 0);
        wave("never, at the end", made(first + "light 0 1 clock round 10 over 5 for 6;light 0 2 clock round 10 over 5 for 10;"), 0, 0, 3, false, 0, 0, 0);
        wave("always, between", made(first + "light 0 1 clock round 10 over 5 for 0;light 0 2 clock round 10 over 5 for 6;"), 0, 0, 3, false, 4, 0, 4);
        wave("always, first", made("town 1 2;walk 3;light 0 0 clock round 10 over 2 for 0;light 0 1 clock round 10 over 5 for 4;"), 0, 0, 2, false, 6, 0);
        wave("never, first", made("town 1 2;walk 3;light 0 0 clock round 10 over 2 for 10;light 0 1 clock round 10 over 5 for 4;"), 0, 0, 2, true, 0, 0);
        wave("all always", made("town 1 2;walk 3;light 0 0 clock round 60 over 2 for 0;light 0 1 clock round 60 over 5 for 0;"), 0, 0, 2, true, 120, 0);
    }

    private void rulesLeast() {
        doc.says(T, "RULES: the rule with the least MEAN from 0 0 at second 0; of equal ones the first.");
        String town = "town 2 2;walk 5;light 1 0 clock round 20 over 0 for 10;";
        due("none told", made(town).rules(), -1);
        due("one", made(town + "rule a 1;").rules(), 0);
        due("the less", made(town + "rule a 1;rule b 0;").rules(), 1);
        due("of equal ones the first", made(town + "rule a 1;rule b 0;rule c 0;rule d 1;").rules(), 1);
        due("all alike", made(town + "rule a 1;rule b 1;rule c 1;rule d 1;").rules(), 0);
        due("the last one", made(town + "rule a 1;rule b 1;rule c 1;rule d 0;").rules(), 3);
        OverFirst x = made(town + "rule a 1;rule b 0;");
        x.go(0, false);
        due("from 0 0 at second 0 wherever one is", x.rules(), 1);
        String soon = "town 2 2;walk 5;light 1 0 clock round 20 over 6 for 14;light 0 1 button round 9 over 1 for 0;rule a 1;rule b 0;";
        due("at second 0: green on at 5, 10 against 11", made(soon).rules(), 0);
        due("at second 1 it would be 24", made(soon).mean(4, 0, 0, 1), 24000);
        String barred = "town 2 2;walk 5;bar 1 0 on;";
        due("one has no MEAN", made(barred + "rule a 1;rule b 0;").rules(), 1);
        due("none has", made(barred + "rule a 1;rule b 1;").rules(), -1);
        due("HOME at once: all alike", made("town 1 1;rule a 0;rule b 1;").rules(), 0);
    }

    private static final String CROSS = "town 2 2;walk 5;light 0 0 clock round 10 over 0 for 4;";

    private void sight(String what, int over, int on, int second, int fits, long first) {
        OverFirst x = made(CROSS);
        due(what + " was", x.was(over, on, second), true);
        due(what + ": how many", x.fits(0), fits);
        due(what + ": the first", x.fits(1), first);
    }

    private void wasAt() {
        doc.says(T, "WAS: he was at a CORNER at a second (8 at most): WAYS from 0 0 at second 0 to HOME by which, going each as soon as it is GREEN (as told),"
            + " he is at each of these then: no sooner than he comes there, no later than he sets out (at HOME never):");
        sight("0 0 at 0", 0, 0, 0, 2, 2);
        sight("0 0 at 1: over is gone", 0, 0, 1, 1, 1);
        sight("0 0 at 4, as he sets out", 0, 0, 4, 1, 1);
        sight("0 0 at 5", 0, 0, 5, 0, -1);
        sight("1 0 at 4, on the street", 1, 0, 4, 0, -1);
        sight("1 0 at 5", 1, 0, 5, 1, 2);
        sight("1 0 at 6", 1, 0, 6, 0, -1);
        sight("0 1 at 8", 0, 1, 8, 0, -1);
        sight("0 1 at 9", 0, 1, 9, 1, 1);
        sight("HOME at 9", 1, 1, 9, 0, -1);
        sight("HOME at 10", 1, 1, 10, 1, 2);
        sight("HOME at 13", 1, 1, 13, 1, 2);
        sight("HOME at 14", 1, 1, 14, 2, 2);
        sight("HOME at 9999", 1, 1, 9999, 2, 2);
        OverFirst x = made(CROSS);
        for (int i = 0; i < 8; i++) {
            due("WAS", x.was(0, 0, i < 4 ? 0 : i - 4), true);
        }
        due("a 9th", x.was(0, 0, 0), false);
        due("8 at most", x.count(11), 8);
        due("each of these", x.fits(0), 1);
        OverFirst two = made(CROSS);
        two.was(1, 0, 5);
        two.was(0, 1, 9);
        due("at two corners of two ways", two.fits(0), 0);
        OverFirst button = made("town 2 1;walk 5;light 0 0 button round 9 over 6 for 0;");
        button.was(0, 0, 6);
        due("at a button till he sets out", button.fits(0), 1);
        button.was(0, 0, 7);
        due("no later", button.fits(0), 0);
        OverFirst told = made("town 2 1;walk 5;light 0 0 hidden round 9 over 6 for 3;");
        told.was(0, 0, 6);
        due("a hidden one as told", told.fits(0), 1);
        OverFirst home = new OverFirst();
        home.was(0, 0, 0);
        home.was(0, 0, 9999);
        due("HOME at once, for ever", home.fits(0), 1);
    }

    private void fitting() {
        doc.says(T, "FITS: how many; the first (over ahead of on); CORNERS on all of them.");
        due("1 1", new OverFirst().fits(0), 1);
        due("1 1: no WAYS", new OverFirst().fits(1), 0);
        due("1 1: its CORNER", new OverFirst().fits(2), 1);
        due("1 1: none in row 8", new OverFirst().fits(3), 0);
        OverFirst x = made("town 6 9;walk 1;");
        due("6 9: 13 over 5", x.fits(0), 1287);
        due("over ahead of on", x.fits(1), 0x1FE0);
        due("0 0 alone in rows 0 to 7", x.fits(2), 1);
        due("HOME in row 8", x.fits(3), 32);
        x = made("town 1 9;walk 1;");
        due("straight on", x.fits(1), 0xFF);
        due("rows 0 to 7", x.fits(2), 0x0101010101010101L);
        due("row 8", x.fits(3), 1);
        x = made("town 6 1;walk 1;");
        due("straight over", x.fits(1), 0);
        due("row 0", x.fits(2), 0x3F);
        x = made("town 6 8;walk 1;bar 0 0 over;bar 0 1 over;bar 0 2 over;bar 0 3 over;bar 0 4 over;bar 0 5 over;bar 0 6 over;");
        due("on to the last row, then over", x.fits(2), 0x3F01010101010101L);
        due("row 8 is not there", x.fits(3), 0);
        x = made("town 2 2;bar 0 0 over;bar 0 1 over;");
        due("none", x.fits(0), 0);
    }

    private static int[] drawn(long seed, int... rounds) {
        int[] draws = new int[rounds.length];
        BigInteger g = BigInteger.valueOf(seed);
        for (int i = 0; i < rounds.length; i++) {
            g = g.multiply(BigInteger.valueOf(1103515245)).add(BigInteger.valueOf(12345)).mod(BigInteger.valueOf(2147483648L));
            draws[i] = g.divide(BigInteger.valueOf(65536)).mod(BigInteger.valueOf(rounds[i])).intValueExact();
        }
        return draws;
    }

    private void draws() {
        doc.says(T, "A DRAW below m: g becomes (g * 1103515245 + 12345) modulo 2147483648 (g is the SEED at first); it is g / 65536, cut, modulo m.");
        OverFirst x = made("town 1 2;walk 1;light 0 0 hidden round 60 over 0 for 59;");
        for (int seed : new int[] {0, 1, 2, 5, 12345, 65535, 65536, 1103515245, MAX, MAX - 1, -1, -2, MIN, MIN + 1}) {
            int draw = drawn(seed, 60)[0];
            due("SEED " + seed, x.nights(seed, 1, 3, 0), 59 - draw + 1);
            int[] three = drawn(seed, 60, 60, 60);
            due("SEED " + seed + ", g goes on", x.nights(seed, 3, 3, 0), 59 * 3 - three[0] - three[1] - three[2] + 3);
            due("SEED " + seed + ", the longest", x.nights(seed, 3, 3, 1), 60 - Math.min(three[0], Math.min(three[1], three[2])));
        }
        OverFirst one = made("town 1 2;walk 1;light 0 0 hidden round 1 over 0 for 0;light 0 1 hidden round 1 over 0 for 0;");
        due("below 1", one.nights(7, 30, 3, 0), 30);
    }

    private void nightsByDraws() {
        doc.says(T, "NIGHTS by a SEED, so many (1 to 30), a GOER: each from 0 0 at second 0: by CORNERS (on by on, over by over) each hidden light not KNOWN has a DRAW below its round:"
            + " at which of them it stands at second 0; the best one chooses by MEAN. All seconds; the longest one.");
        OverFirst x = made("town 2 2;walk 5;light 1 0 hidden round 60 over 0 for 50;light 0 1 hidden round 60 over 0 for 10;");
        int[] d = drawn(1, 60, 60);
        int stand = (5 + d[0]) % 60;
        int over = 10 + (stand < 50 ? 50 - stand : 0);
        due("1 0 has the first DRAW", x.nights(1, 1, 0, 0), over);
        stand = (5 + d[1]) % 60;
        int on = 10 + (stand < 10 ? 0 : 60 - stand);
        due("0 1 has the second one", x.nights(1, 1, 1, 0), on);
        OverFirst rows = made("town 3 2;walk 5;light 0 1 hidden round 7 over 0 for 3;light 2 0 hidden round 60 over 0 for 50;");
        stand = (10 + drawn(1, 60)[0]) % 60;
        due("2 0 ahead of 0 1", rows.nights(1, 1, 0, 0), 15 + (stand < 50 ? 50 - stand : 0));
        int all = 0;
        int longest = 0;
        int[] sixty = new int[60];
        java.util.Arrays.fill(sixty, 60);
        d = drawn(9, sixty);
        for (int night = 0; night < 30; night++) {
            stand = (5 + d[2 * night]) % 60;
            over = 10 + (stand < 50 ? 50 - stand : 0);
            all += over;
            longest = Math.max(longest, over);
        }
        due("30 nights", x.nights(9, 30, 0, 0), all);
        due("the longest", x.nights(9, 30, 0, 1), longest);
        due("31", x.nights(9, 31, 0, 0), -1);
        due("0", x.nights(9, 0, 0, 0), -1);
        x.go(0, false);
        x.look();
        due("wherever one is; 1 0 is KNOWN, at 5: 45 to wait", x.nights(1, 2, 0, 0), 110);
        stand = (5 + drawn(1, 60)[0]) % 60;
        due("so 0 1 has the first DRAW", x.nights(1, 1, 1, 0), 10 + (stand < 10 ? 0 : 60 - stand));
        due("from second 0, when over is green and he is left", made("town 2 2;bar 1 0 on;light 0 0 clock round 10 over 0 for 1;").nights(1, 1, 2, 0), -1);
        due("from second 0, when on is green", made("town 2 2;bar 1 0 on;light 0 0 clock round 10 over 1 for 9;").nights(1, 1, 2, 0), 20);
        due("no seconds, the longest", new OverFirst().nights(1, 3, 0, 1), 0);
        OverFirst best = made("town 2 2;walk 5;light 1 0 hidden round 60 over 0 for 10;light 0 1 button round 60 over 5 for 0;");
        for (int seed = 0; seed < 9; seed++) {
            stand = (5 + drawn(seed, 60)[0]) % 60;
            due("the best one goes over by MEAN, however it stands", best.nights(seed, 1, 3, 0), 10 + (stand < 10 ? 10 - stand : 0));
        }
    }

    private void marks() {
        doc.says(T, "MARKS 0 to 3 hold where one is, when, runs, what is KNOWN, TRIED, where he WAS (nothing can be undone when one is gone back to).");
        OverFirst x = made("town 2 3;walk 5;run 1;runs 3;light 0 1 hidden round 4 over 0 for 2;light 0 0 button round 4 over 1 for 0;");
        due("-1", x.mark(-1, false), false);
        due("4", x.mark(4, false), false);
        int[][] held = new int[4][];
        for (int mark = 0; mark < 4; mark++) {
            due("nothing on it", x.mark(mark, true), false);
            due("laid", x.mark(mark, false), true);
            held[mark] = counts(x);
            if (mark == 0) {
                x.go(1, true);
                x.tried(0, 0, true, 0);
            } else if (mark == 1) {
                x.look();
                x.was(0, 1, 1);
            } else {
                x.stay(4);
                x.go(0, false);
            }
        }
        for (int mark : new int[] {2, 0, 3, 1, 1}) {
            x.stay(1);
            due("gone back to", x.mark(mark, true), true);
            int[] now = counts(x);
            for (int i = 0; i < now.length; i++) {
                due("mark " + mark + ", what it holds, " + i, now[i], held[mark][i]);
            }
            due("nothing can be undone", x.count(13), 0);
            due("nothing can be undone", x.undo(), false);
        }
        x.stay(1);
        due("laying one leaves what can be undone", x.mark(0, false) && x.count(13) == 1, true);
        due("UNDO", x.undo(), true);
        marksHoldWhatWasTold();
    }

    private void marksHoldWhatWasTold() {
        OverFirst x = made("town 2 2;walk 5;light 0 0 button round 8 over 3 for 0;light 0 1 button round 8 over 3 for 0;");
        x.mark(0, false);
        x.tried(0, 0, true, 3);
        x.was(0, 1, 5);
        x.mark(1, false);
        x.mark(0, true);
        x.tried(0, 1, true, 4);
        x.was(1, 0, 8);
        x.mark(2, false);
        x.mark(0, true);
        x.tried(0, 0, false, 3);
        x.was(0, 1, 4);
        x.mark(3, false);
        for (int mark : new int[] {1, 2, 3, 2, 1, 3, 1}) {
            due("back to " + mark, x.mark(mark, true), true);
            doesIs("mark " + mark + ", 0 0", x, 0, 0, mark == 1 ? 2 : 1, mark == 1 ? 3 : 2);
            doesIs("mark " + mark + ", 0 1", x, 0, 1, mark == 2 ? 0 : 1, mark == 2 ? 1 : 2);
            due("mark " + mark + ", how many fit", x.fits(0), mark == 3 ? 0 : 1);
            due("mark " + mark + ", the first", x.fits(1), mark == 3 ? -1 : mark);
        }
    }

    private static int[] counts(OverFirst x) {
        return new int[] {x.count(5), x.count(6), x.count(7), x.count(8), x.count(9), x.count(10), x.count(11), (int) x.does(0, 0, 0), (int) x.fits(0)};
    }
}
