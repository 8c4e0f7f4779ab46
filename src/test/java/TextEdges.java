/** The edges of the tape, its tokens, towns, walks, expressions and faults. */
final class TextEdges extends Edges {
    private static final int T = Doc.TERMS;
    private static final String[] RESERVED = {"town", "light", "bar", "rule", "walk", "run", "slow", "runs", "child", "round", "over",
        "on", "for", "clock", "hidden", "button", "police", "not", "and", "or"};
    private static final String[] KINDS = {"clock", "hidden", "button", "police"};

    TextEdges(Doc doc, Check check) {
        super(doc, check);
    }

    @Override
    void run() {
        tapeLength();
        tapeSigns();
        tapeTaken();
        blanks();
        words();
        numbers();
        signs();
        strange();
        townSize();
        townLines();
        lightCorner();
        lightKind();
        lightRound();
        lightGreen();
        bars();
        fourRules();
        settings();
        settingsWithout();
        onceEach();
        walkLines();
        walkSeconds();
        names();
        fromTheLeft();
        comparisons();
        sums();
        parts();
        withinFive();
        facts();
        truth();
        faultPlace();
        faultOne();
        faultTwo();
        faultThree();
        faultFour();
        faultFive();
        leastFault();
        newTown();
        newWalk();
        atFirst();
    }

    private void tapeLength() {
        doc.says(T, "The TAPE has at most 1,000 signs,");
        OverFirst x = new OverFirst();
        due("999 signs", Check.lay(x, "town 1 1;" + times(990, " ")), 999);
        due("a 1,000th and one more", Check.lay(x, " x"), 1000);
        due("one more", Check.lay(x, "x"), 1000);
        due("24 more", Check.lay(x, times(24, "x")), 1000);
        due("what is beyond isn't read", x.town(), 0);
        due("999 signs", Check.lay(x, "town 1 1;" + times(990, "\n")), 999);
        due("a 1,000th and one more", Check.lay(x, "x;"), 1000);
        due("the 1,000th is read", x.town(), 1 + 16 * 999);
        due("the end's place", Check.lay(x, "town 1 1" + times(992, " ")), 1000);
        due("town without its ; at the end", x.town(), 1 + 16 * 1000);
        due("976 signs", Check.lay(x, times(976, " ")), 976);
        due("24 at once, to the last", x.feed(0x2020202020202020L, 0x2020202020202020L, 0x2020202020202020L), 1000);
        due("8 and no more of 24", tapeAfter(992), 1000);
    }

    private static int tapeAfter(int signs) {
        OverFirst x = new OverFirst();
        Check.lay(x, times(signs, " "));
        return x.feed(0x2020202020202020L, 0x2020202020202020L, 0x2020202020202020L);
    }

    private void tapeSigns() {
        doc.says(T, "10 and 32 .. 126;");
        for (int sign = 0; sign < 256; sign++) {
            OverFirst x = new OverFirst();
            boolean is = sign == 10 || sign >= 32 && sign <= 126;
            due("feed the sign " + sign, x.feed((long) sign << 56, 0, 0), is ? 1 : 0);
            due("feed 24 of the sign " + sign, x.feed(sign * 0x0101010101010101L, sign * 0x0101010101010101L, sign * 0x0101010101010101L), is ? 25 : 0);
        }
    }

    private void tapeTaken() {
        doc.says(T, "what reads it takes it: it is empty then.");
        OverFirst x = new OverFirst();
        Check.town(x, "town 2 2;");
        due("the tape after a town", x.count(14), 0);
        Check.town(x, "town 2 |;");
        due("the tape after a fault in a town", x.count(14), 0);
        Check.walk(x, "on 0;");
        due("the tape after a walk", x.count(14), 0);
        Check.walk(x, "on 0;on 0;");
        due("the tape after a fault in a walk", x.count(14), 0);
        due("the first sign behind it is at 0", Check.town(x, "?"), 1);
        due("town() of the empty one", x.town(), 1);
    }

    private void blanks() {
        doc.says(T, "TOKENS, each as long as can be, blanks (10, 32) between where one likes:");
        goodTown(" \n town\n1 \n 1\n;\n\n walk \n3;  ");
        goodTown("town1 1;walk3;child;rule a1+over*(2-on)<3and not up;");
        townFault("town 1 1;|wa lk 3;", 1);
        goodTown("town 1 1;runs 1;run 1;");
        townFault("town 1 1;|runss 1;", 1);
        townFault("town 1 1;run |s 1;", 1);
        townFault("town |11;", 4);
        townFault("town 1 1 |1;", 1);
    }

    private void words() {
        doc.says(T, "WORDS (letters a .. z, 8 at most),");
        goodTown("town 1 1;rule abcdefgh 1;rule z 1;rule az 1;");
        townFault("town 1 1;rule |abcdefghi 1;", 1);
        townFault("town 1 1;rule |" + times(900, "a") + " 1;", 1);
        townFault("town 1 1;rule |A 1;", 1);
        townFault("town 1 1;rule a|B 1;", 1);
        townFault("town 1 1;rule |` 1;", 1);
        townFault("town 1 1;rule |{ 1;", 1);
        townFault("town 1 1;rule |Z 1;", 1);
        townFault("|Town 1 1;", 1);
        townFault("|towntowni 1 1;", 1);
        due("eight letters are told apart", Check.town(new OverFirst(), "town 1 1;rule abcdefgh 1;rule abcdefgi 1;rule bbcdefgh 1;"), 0);
        townFault("town 1 1;rule abcdefgh 1;rule |abcdefgh 1;", 3);
    }

    private void numbers() {
        doc.says(T, "NUMBERS (1 to 4 digits; a letter may stand right behind),");
        goodTown("town 0006 0009;");
        goodTown("town 1 1;rule a 0;rule b 9;rule c 9999;rule d 0000;");
        townFault("town |00001 1;", 1);
        townFault("town 1 1;rule a |10000;", 1);
        townFault("town 1 1;rule a |" + times(900, "0") + ";", 1);
        townFault("town 1 1;rule a |99990000;", 1);
        goodTown("town 1 1;light0 0clock round5over0for0;rule a1and 2or 3;");
        townFault("town 1 1;rule a 1|/;", 1);
        townFault("town 1 1;rule a 1|:;", 1);
        townFault("town 1 1;rule a |12345and 1;", 1);
    }

    private void signs() {
        doc.says(T, "the signs ( ) < = + - * ;");
        for (char c = 32; c <= 126; c++) {
            String text = "town 1 1;rule a 1" + c + "1;";
            int place = 17;
            boolean joins = "<=+-*".indexOf(c) >= 0 || Character.isDigit(c);
            // behind a blank or a ; it is the second 1 that can't stand there
            int want = joins ? 0 : c == ' ' || c == ';' ? 1 + 16 * (place + 1) : 1 + 16 * place;
            due("town() of " + text, Check.town(new OverFirst(), text), want);
            text = "town 1 1;rule a " + c + "1);";
            want = c == '(' ? 0 : Character.isDigit(c) || c == ' ' ? 1 + 16 * 18 : 1 + 16 * 16;
            due("town() of " + text, Check.town(new OverFirst(), text), want);
        }
        due("a 10 between two NUMBERS", Check.town(new OverFirst(), "town 1 1;rule a 1\n1;"), 1 + 16 * 18);
    }

    private void strange() {
        doc.says(T, "All else (a longer WORD or NUMBER, too, at its first sign) is none.");
        for (char c = 33; c <= 126; c++) {
            townFault("town 2 2;|" + c + " 1;", 1);
            OverFirst x = made("town 2 2;");
            due("walk() of " + c, Check.walk(x, c + " 1;"), 1);
        }
        townFault("town 2 2;bar 0 |00000 on;", 1);
        townFault("town 2 2;light 0 0 |policeman round 1 over 0 for 0;", 1);
        walkFault("town 2 2;", "|overoveri 1;", 1);
        walkFault("town 2 2;", "over |00001;", 1);
        walkFault("town 2 2;", "over 1;on 1|.", 1);
    }

    private void townSize() {
        doc.says(T, "TOWN: town N N ; first (CORNERS over, 1 to 6, and on, 1 to 9); then any number of");
        for (int over = 0; over <= 9; over++) {
            for (int on = 0; on <= 9; on++) {
                OverFirst x = new OverFirst();
                int fault = over < 1 || over > 6 ? 4 + 16 * 5 : on < 1 ? 4 + 16 * 7 : 0;
                due("town " + over + " " + on, Check.town(x, "town " + over + " " + on + ";"), fault);
                due("CORNERS over", x.count(0), fault == 0 ? over : 1);
                due("CORNERS on", x.count(1), fault == 0 ? on : 1);
            }
        }
        townFault("town 1 |10;", 4);
        townFault("town |10 1;", 4);
        townFault("town |9999 1;", 4);
        townFault("town 1 |9999;", 4);
        townFault("|", 1);
        townFault("   |", 1);
        townFault("|walk 3;town 1 1;", 1);
        townFault("|;", 1);
        townFault("town|", 1);
        townFault("town 1|", 1);
        townFault("town 1 1|", 1);
        townFault("town 1 1 |walk 3;", 1);
        townFault("town |over 1;", 1);
        townFault("town 1 |;", 1);
    }

    private void townLines() {
        doc.says(T, "light N N KIND round N over N for N ; bar N N WAY ; rule NAME E ; walk N ; run N ; slow N ; runs N ; child ;");
        String line = "light 0 0 clock round 5 over 4 for 3 ;";
        cutAnywhere("town 2 2;", line);
        cutAnywhere("town 2 2;", "bar 1 1 on ;");
        cutAnywhere("town 2 2;", "rule a ( over < 2 ) ;");
        cutAnywhere("town 2 2;", "walk 3 ;");
        cutAnywhere("town 2 2;", "run 3 ;");
        cutAnywhere("town 2 2;", "slow 3 ;");
        cutAnywhere("town 2 2;", "runs 3 ;");
        cutAnywhere("town 2 2;", "child ;");
        townFault("town 2 2;light 0 0 clock |over 0 round 5 for 1;", 1);
        townFault("town 2 2;light 0 0 clock round 5 |for 1 over 0;", 1);
        townFault("town 2 2;child |1;", 1);
        townFault("town 2 2;walk |;", 1);
        townFault("town 2 2;bar 0 0 |;", 1);
        townFault("town 2 2;bar 0 0 |clock;", 1);
        townFault("town 2 2;bar 0 0 over |on;", 1);
        townFault("town 2 2;rule a |;", 1);
        townFault("town 2 2;rule |over 1;", 1);
        townFault("town 2 2;child;|;", 1);
        goodTown("town 2 2;" + line + "bar 1 1 on;rule a 1;walk 3;run 3;slow 3;runs 3;child;");
        goodTown("town 2 2;child;runs 3;slow 3;run 3;walk 3;rule a 1;bar 1 1 on;" + line);
        StringBuilder many = new StringBuilder("town 6 9;");
        for (int i = 0; i < 54; i++) {
            many.append("bar").append(i % 6).append(' ').append(i / 6).append("on;");
        }
        OverFirst x = new OverFirst();
        due("54 lines and more", Check.town(x, many + "child;walk 1;run 1;slow 1;runs 1;bar0 0over;"), 0);
        due("the 54th bar", x.light(5, 8, 5), 2);
        due("the last bar", x.light(0, 0, 5), 3);
    }

    /** A line that ends ahead of one of its tokens has its fault there: it is the end that can't stand there. */
    private void cutAnywhere(String town, String line) {
        for (int at = line.indexOf(' '); at >= 0; at = line.indexOf(' ', at + 1)) {
            townFault(town + line.substring(0, at) + "|", 1);
            townFault(town + line.substring(0, at) + " |town", 1);
        }
        goodTown(town + line);
    }

    private void lightCorner() {
        doc.says(T, "light: a CORNER (over, on; from 0), each once;");
        String rest = " clock round 1 over 0 for 0;";
        for (int over = 1; over <= 6; over++) {
            for (int on = 1; on <= 9; on++) {
                String town = "town " + over + " " + on + ";";
                goodTown(town + "light 0 0" + rest);
                OverFirst x = made(town + "light " + (over - 1) + " " + (on - 1) + rest);
                due("the light at the last CORNER", x.light(over - 1, on - 1, 0), 0);
                due("how many", x.count(2), 1);
                townFault(town + "light |" + over + " 0" + rest, 4);
                townFault(town + "light 0 |" + on + rest, 4);
                townFault(town + "light |9999 0" + rest, 4);
            }
        }
        townFault("town 6 9;light 5 8" + rest + "light 5 |8" + rest, 3);
        goodTown("town 6 9;light 5 7" + rest + "light 5 8" + rest + "light 4 8" + rest);
        townFault("town 6 9;light 0 0 police round 1 over 0 for 0;light 0 |0 button round 1 over 0 for 0;", 3);
    }

    private void lightKind() {
        doc.says(T, "KIND: clock, hidden, button, police;");
        for (int kind = 0; kind < 4; kind++) {
            due(KINDS[kind], made("town 1 1;light 0 0 " + KINDS[kind] + " round 1 over 0 for 1;").light(0, 0, 0), kind);
        }
        for (String word : new String[] {"light", "clocks", "cloc", "hid", "on", "over", "a", "1", ";", "round"}) {
            townFault("town 1 1;light 0 0 |" + word + " round 1 over 0 for 1;", 1);
        }
    }

    private void lightRound() {
        doc.says(T, "round 1 to 60");
        for (String kind : KINDS) {
            String head = "town 1 1;light 0 0 " + kind + " round ";
            townFault(head + "|0 over 0 for 0;", 4);
            townFault(head + "|61 over 0 for 0;", 4);
            townFault(head + "|9999 over 0 for 0;", 4);
            for (int round = 1; round <= 60; round++) {
                OverFirst x = made(head + round + " over 0 for 0;");
                due("round", x.light(0, 0, 1), round);
                due("the least common multiple", x.count(12), kind.equals("clock") || kind.equals("hidden") ? round : 1);
            }
        }
        doc.says(T, "(the least common multiple of the rounds of clocks and hidden ones is 1,200 at most),");
        String two = "town 6 1;light0 0clock round48over0for0;light1 0hidden round";
        due("48 and 50", made(two + "50over0for0;").count(12), 1200);
        townFault("town 6 1;light0 0clock round48over0for0;light1 0hidden round|49over0for0;", 4);
        townFault("town 6 1;light0 0clock round48over0for0;light1 0clock round|35over0for0;", 4);
        townFault("town 6 1;light0 0hidden round49over0for0;light1 0hidden round|25over0for0;", 4);
        due("24 and 49 are 1,176", made("town 6 1;light0 0clock round24over0for0;light1 0clock round49over0for0;").count(12), 1176);
        townFault("town 6 1;light0 0clock round43over0for0;light1 0clock round|28over0for0;", 4);
        due("16, 25 and 3 are 1,200", made("town 6 1;light0 0clock round16over0for0;light1 0hidden round25over0for0;light2 0clock round3over0for0;").count(12), 1200);
        townFault("town 6 1;light0 0clock round16over0for0;light1 0hidden round25over0for0;light2 0clock round|9over0for0;", 4);
        due("neither buttons nor police", made(two + "50over0for0;light2 0button round59over0for0;light3 0police round53over0for0;").count(12), 1200);
        townFault("town 6 1;light2 0button round59over0for0;light0 0clock round59over0for0;light1 0clock round|58over0for0;", 4);
        due("all rounds of 1,200's divisors", made(two + "50over0for0;light2 0clock round60over0for0;light3 0clock round40over0for0;").count(12), 1200);
    }

    private void lightGreen() {
        doc.says(T, "over 0 to round less 1, for 0 to round.");
        for (String kind : KINDS) {
            for (int round : new int[] {1, 2, 3, 30, 59, 60}) {
                String head = "town 1 1;light 0 0 " + kind + " round " + round + " over ";
                townFault(head + "|" + round + " for 0;", 4);
                townFault(head + "|9999 for 0;", 4);
                townFault(head + (round - 1) + " for |" + (round + 1) + ";", 4);
                townFault(head + "0 for |9999;", 4);
                OverFirst x = made(head + (round - 1) + " for " + round + ";");
                due("over", x.light(0, 0, 2), round - 1);
                due("for", x.light(0, 0, 3), round);
                x = made(head + "0 for 0;");
                due("over", x.light(0, 0, 2), 0);
                due("for", x.light(0, 0, 3), 0);
            }
        }
    }

    private void bars() {
        doc.says(T, "bar: a CORNER, a WAY (over, on), each pair once.");
        String town = "town 3 4;";
        due("over", made(town + "bar 2 3 over;").light(2, 3, 5), 1);
        due("on", made(town + "bar 2 3 on;").light(2, 3, 5), 2);
        due("both", made(town + "bar 2 3 on;bar 2 3 over;").light(2, 3, 5), 3);
        townFault(town + "bar |3 0 on;", 4);
        townFault(town + "bar 0 |4 on;", 4);
        townFault(town + "bar 0 0 on;bar 0 0 |on;", 3);
        townFault(town + "bar 0 0 over;bar 0 0 on;bar 0 0 |over;", 3);
        townFault(town + "bar 2 3 on;bar 1 3 on;bar 2 2 on;bar 2 3 |on;", 3);
        goodTown(town + "bar 2 3 on;bar 1 3 on;bar 2 2 on;bar 2 3 over;");
        townFault(town + "bar 0 0 |left;", 1);
    }

    private void fourRules() {
        doc.says(T, "rule: 4 at most, numbered as told.");
        String town = "town 2 2;walk 5;bar 1 0 on;";
        String four = "rule d 1;rule c 0;rule b 1;rule a 0;";
        OverFirst x = made(town + four);
        due("how many", x.count(3), 4);
        for (int rule = 0; rule < 4; rule++) {
            due("rule " + rule + " is of goer " + (4 + rule), x.mean(4 + rule, 0, 0, 0), rule % 2 == 0 ? -1 : 10000);
        }
        due("no goer 8", x.mean(8, 0, 0, 0), -1);
        townFault(town + four + "|rule e 1;", 5);
        townFault(town + four + "|rule", 5);
        townFault(town + four + "child;|rule a 1;", 5);
        due("none", made(town).mean(4, 0, 0, 0), -1);
    }

    private void settings() {
        doc.says(T, "walk, run, slow: 1 to 30 seconds");
        for (String word : new String[] {"walk", "run", "slow"}) {
            townFault("town 1 2;" + word + " |0;", 4);
            townFault("town 1 2;" + word + " |31;", 4);
            townFault("town 1 2;" + word + " |9999;", 4);
            for (int seconds = 1; seconds <= 30; seconds++) {
                goodTown("town 1 2;" + word + " " + seconds + ";");
            }
        }
        due("walk 1", made("town 1 2;walk 1;").go(1, false), 1);
        due("walk 30", made("town 1 2;walk 30;").go(1, false), 30);
        due("run 1", made("town 1 2;run 1;runs 1;").go(1, true), 1);
        due("run 30", made("town 1 2;run 30;runs 1;").go(1, true), 30);
        doc.says(T, "runs 0 to 9 (0).");
        townFault("town 1 2;runs |10;", 4);
        townFault("town 1 2;runs |9999;", 4);
        for (int runs = 0; runs <= 9; runs++) {
            due("runs " + runs, made("town 1 2;runs " + runs + ";").count(8), runs);
        }
        due("runs without", made("town 1 2;").count(8), 0);
        due("run without runs", made("town 1 2;run 3;").go(1, true), -1);
    }

    private void settingsWithout() {
        doc.says(T, "(walk 10 without; the others as walk);");
        due("walk without", made("town 1 2;").go(1, false), 10);
        due("run without, walk without", made("town 1 2;runs 1;").go(1, true), 10);
        due("run without", made("town 1 2;runs 1;walk 7;").go(1, true), 7);
        due("run without, walk told behind", made("town 1 2;slow 9;runs 1;walk 7;").go(1, true), 7);
        due("walk without, run told", made("town 1 2;runs 1;run 4;").go(1, false), 10);
        OverFirst x = made("town 1 3;walk 7;light 0 1 clock round 50 over 0 for 20;");
        goodWalk(x, "on 0;on 7;", 2);
        due("slow without: as walk, so one stands", x.pace(0, 0), 1);
        due("and each street is walked", x.pace(0, 2), 7);
        x = made("town 1 3;walk 7;slow 20;light 0 1 clock round 50 over 0 for 20;");
        goodWalk(x, "on 0;on 7;", 2);
        due("slow told", x.pace(0, 0), 0);
        due("in 20", x.pace(0, 2), 20);
    }

    private void onceEach() {
        doc.says(T, "walk, run, slow, runs, child: once each.");
        for (String word : new String[] {"walk", "run", "slow", "runs"}) {
            townFault("town 1 1;" + word + " 1;|" + word + " 1;", 3);
            townFault("town 1 1;" + word + " 1;child;|" + word + " 2;", 3);
            townFault("town 1 1;" + word + " 1;|" + word, 3);
        }
        townFault("town 1 1;child;|child;", 3);
        townFault("town 1 1;child;runs 0;|child", 3);
        townFault("town 1 1;runs 0;|runs 0;", 3);
        townFault("town 1 1;walk 10;|walk 10;", 3);
        goodTown("town 1 1;walk 1;run 1;slow 1;runs 1;child;");
        OverFirst x = new OverFirst();
        due("once in each town", Check.town(x, "town 1 1;walk 1;child;") + Check.town(x, "town 1 1;walk 1;child;") + Check.town(x, "town 1 1;walk 1;child;"), 0);
    }

    private void walkLines() {
        doc.says(T, "WALK: any number of over N ; on N ; 13 at most:");
        OverFirst x = made("town 6 9;");
        goodWalk(x, "", 0);
        goodWalk(x, " \n ", 0);
        String lines = "";
        for (int many = 1; many <= 13; many++) {
            lines += many % 3 == 0 || many == 13 ? "over " + many + ";" : "on " + many + "\n;";
            goodWalk(x, lines, many);
        }
        due("a 14th", Check.walk(x, lines + "on 99;"), 2 + 16 * lines.length());
        due("the 13 stay", x.count(4), 13);
        goodWalk(x, "", 0);
        walkFault("town 2 2;", "over|", 1);
        walkFault("town 2 2;", "over |;", 1);
        walkFault("town 2 2;", "over 1|", 1);
        walkFault("town 2 2;", "over 1 |on 1;", 1);
        walkFault("town 2 2;", "over 1;|;", 1);
        walkFault("town 2 2;", "over |on 1;", 1);
        walkFault("town 2 2;", "|town 1 1;", 1);
        walkFault("town 2 2;", "|1 over;", 1);
        walkFault("town 2 2;", "over 1;|walk 1;", 1);
    }

    private void walkSeconds() {
        doc.says(T, "the WAY one goes, the second (0 to 9999) at which one begins to cross.");
        OverFirst x = made("town 2 2;");
        goodWalk(x, "over 0;", 1);
        goodWalk(x, "over 0000;", 1);
        goodWalk(x, "on 9999;", 1);
        walkFault("town 2 2;", "on |10000;", 1);
        walkFault("town 2 2;", "on |-1;", 1);
        goodWalk(x, "over 0;on 9;", 2);
        due("the second is when one begins to cross", x.judged(), 1);
        goodWalk(x, "over 0;on 10;", 2);
        due("the second is when one begins to cross", x.judged(), -1);
        goodWalk(x, "over 9999;on 9999;", 2);
        due("too soon for who begins at 9999", x.judged(), 1);
    }

    private void names() {
        doc.says(T, "A NAME is another WORD than town, light, bar, rule, walk, run, slow, runs, child, round, over, on, for, the KINDS, not, and, or;");
        for (String word : RESERVED) {
            townFault("town 1 1;rule |" + word + " 1;", 1);
            goodTown("town 1 1;rule " + (word.length() < 8 ? word + "x" : "x") + " 1;");
            goodTown("town 1 1;rule x" + word + " 1;");
        }
        goodTown("town 1 1;rule left 1;rule up 1;rule kind 1;rule way 1;");
        goodTown("town 1 1;rule a 1;rule home 1;rule e 1;rule test 1;");
        townFault("town 1 1;rule |1 1;", 1);
        townFault("town 1 1;rule |( 1;", 1);
        townFault("town 1 1;rule |", 1);
        doc.says(T, "no two are alike.");
        townFault("town 1 1;rule a 1;rule |a 1;", 3);
        townFault("town 1 1;rule a 1;rule b 1;rule aa 1;rule |a 0;", 3);
        townFault("town 1 1;rule left 1;rule |left 0;", 3);
        goodTown("town 1 1;rule a 1;rule aa 1;rule aaa 1;rule aaaaaaaa 1;");
        OverFirst x = new OverFirst();
        due("told in another town", Check.town(x, "town 1 1;rule a 1;") + Check.town(x, "town 1 1;rule a 1;") + Check.town(x, "town 1 1;rule a 1;"), 0);
        due("told in a town with a fault", Check.town(x, "town 1 1;rule b 1;?"), 1 + 16 * 18);
        due("told in a town with a fault", Check.town(x, "town 1 1;rule b 1;"), 0);
    }

    /** Who goes over at 0 0 waits till 20 at 1 0; who goes on is home at 10. */
    private static final String ASKS = "town 2 2;walk 5;light 1 0 clock round 30 over 0 for 20;";

    private void says(String e, boolean over) {
        due("rule " + e, made(ASKS + "rule a " + e + ";").mean(4, 0, 0, 0), over ? 25000 : 10000);
    }

    private void fromTheLeft() {
        doc.says(T, "E: TEST { and TEST or or TEST }, from the left;");
        says("1 or 0 and 0", false);
        says("0 and 0 or 1", true);
        says("0 and 1 or 1 and 0", false);
        says("1 or 1 and 0 or 0", false);
        says("1 or (1 and 0)", true);
        says("1", true);
        says("0", false);
        townFault("town 1 1;rule a 1 and|", 1);
        townFault("town 1 1;rule a 1 or |;", 1);
        townFault("town 1 1;rule a |and 1;", 1);
        townFault("town 1 1;rule a 1 and |or 1;", 1);
        townFault("town 1 1;rule a 1 |1;", 1);
        goodTown("town 1 1;rule a 1" + times(195, "or 1") + ";");
        says("0" + times(180, "or 0") + " or 1", true);
    }

    private void comparisons() {
        doc.says(T, "TEST: SUM, or SUM < SUM, or SUM = SUM;");
        says("1<2", true);
        says("2<2", false);
        says("3<2", false);
        says("2=2", true);
        says("2=3", false);
        says("1+1=2", true);
        says("0<1 and 1=1", true);
        says("2 and 2=2", true);
        townFault("town 1 1;rule a 1<2|<3;", 1);
        townFault("town 1 1;rule a 1=1|=1;", 1);
        townFault("town 1 1;rule a 1<2|=1;", 1);
        townFault("town 1 1;rule a |<2;", 1);
        townFault("town 1 1;rule a 1<|;", 1);
        townFault("town 1 1;rule a 1<|=1;", 1);
        says("(1<2)=1", true);
    }

    private void sums() {
        doc.says(T, "SUM: PRODUCT { + or - PRODUCT }; PRODUCT: PART { * PART };");
        says("3-2-1", false);
        says("3-(2-1)", true);
        says("1-1*1", false);
        says("(1-1)*1+0", false);
        says("2*3+4=10", true);
        says("2+3*4=14", true);
        says("2*3*4=24", true);
        says("0-1", true);
        says("9-3+2=8", true);
        townFault("town 1 1;rule a |-1;", 1);
        townFault("town 1 1;rule a |+1;", 1);
        townFault("town 1 1;rule a |*1;", 1);
        townFault("town 1 1;rule a 1*|*1;", 1);
        townFault("town 1 1;rule a 1-|-1;", 1);
        townFault("town 1 1;rule a 1*|", 1);
        says("0" + times(440, "+0") + "+1", true);
        says("0" + times(440, "*1"), false);
    }

    private void parts() {
        doc.says(T, "PART: a NUMBER, a fact, not PART, ( E );");
        says("not 0 + 1 = 2", true);
        says("not 1 * 0", false);
        says("not 0 * 0", false);
        says("not (0 * 0)", true);
        says("not not 5", true);
        says("(0 or 1 and 1)", true);
        says("((0))", false);
        for (String word : RESERVED) {
            boolean part = word.equals("over") || word.equals("on");
            if (!part && !word.equals("not")) {
                townFault("town 1 1;rule a |" + word + ";", 1);
            }
        }
        townFault("town 1 1;rule a |a;", 1);
        townFault("town 1 1;rule a ( |);", 1);
        townFault("town 1 1;rule a (1|;", 1);
        townFault("town 1 1;rule a (1|", 1);
        townFault("town 1 1;rule a (1)|);", 1);
        townFault("town 1 1;rule a 1|(2);", 1);
        townFault("town 1 1;rule a not|;", 1);
        townFault("town 1 1;rule a not |and 1;", 1);
        townFault("town 1 1;rule a 1 |not 1;", 1);
    }

    private void withinFive() {
        doc.says(T, "no PART lies within 5 of not and ( ).");
        for (int brackets = 0; brackets <= 4; brackets++) {
            String nots = times(4 - brackets, "not ");
            goodTown("town 1 1;rule a " + times(brackets, "(") + nots + "1" + times(brackets, ")") + ";");
            goodTown("town 1 1;rule a " + nots + times(brackets, "(") + "over" + times(brackets, ")") + ";");
            townFault("town 1 1;rule a not " + times(brackets, "(") + nots + "|1" + times(brackets, ")") + ";", 5);
            townFault("town 1 1;rule a (" + nots + times(brackets, "(") + "|up" + times(brackets, ")") + ");", 5);
            townFault("town 1 1;rule a (" + nots + times(brackets, "(") + "|(1)" + times(brackets, ")") + ");", 5);
            townFault("town 1 1;rule a (" + nots + times(brackets, "(") + "|not 1" + times(brackets, ")") + ");", 5);
        }
        goodTown("town 1 1;rule a ((((1))))+((((1))))*((((1))))<((((1)))) and not not not not 1;");
        townFault("town 1 1;rule a ((((1))))+((((1+(|1)))));", 5);
        townFault("town 1 1;rule a not not not not 1 or not not not not not |1;", 5);
        goodTown("town 1 1;rule a not(not(1)+not(2))+not(not(3));");
        goodTown("town 1 1;rule a " + times(60, "not 1*(1)+") + "(1);");
    }

    private void facts() {
        doc.says(T, "Facts: over, on (the WAIT for it; 999 if one can't go there), left (CORNERS yet to go over), up (CORNERS yet to go on).");
        String lit = "town 2 2;walk 5;light 0 0 clock round 30 over 0 for 20;light 1 0 clock round 30 over 0 for 15;";
        due("WAITs at 0: over's is 0, on's is 20, so over", made(lit + "rule a (over=0)*(on=20);").mean(4, 0, 0, 0), 20000);
        due("WAITs at 20: over's is 10, on's is 0", made(lit + "rule a (over=10)*(on=0);").mean(4, 0, 0, 20), 30000);
        due("WAITs at 19: over's is 0, on's is 1", made(lit + "rule a (over=0)*(on=1);").mean(4, 0, 0, 19), 10000);
        String button = "town 2 2;walk 5;light 0 0 button round 30 over 7 for 0;";
        due("WAITs at a button: over and 0", made(button + "rule a (over=7)*(on=0);").mean(4, 0, 0, 3), 17000);
        due("no light: 0", made("town 2 2;walk 5;bar 1 0 on;rule a over+on;").mean(4, 0, 0, 3), 10000);
        for (int e = 0; e < 2; e++) {
            due("one can't go over", made("town 2 2;walk 5;bar 0 0 over;rule a " + e + ";").mean(4, 0, 0, 0), 10000);
            due("one can't go on", made("town 2 2;walk 5;bar 0 0 on;rule a " + e + ";").mean(4, 0, 0, 0), 10000);
            due("over is never green", made("town 2 2;walk 5;light 0 0 clock round 3 over 0 for 0;rule a " + e + ";").mean(4, 0, 0, 0), 10000);
            due("on is never green", made("town 2 2;walk 5;light 0 0 clock round 3 over 0 for 3;rule a " + e + ";").mean(4, 0, 0, 0), 10000);
        }
        due("999 if one can't go over", made("town 2 2;walk 5;bar 0 0 over;rule a over=999;").mean(4, 0, 0, 0), 10000);
        due("999 if one can't go on", made("town 2 2;walk 5;bar 0 0 on;rule a on<999;").mean(4, 0, 0, 0), 10000);
        String wide = "town 6 9;walk 1;bar 1 0 over;bar 1 0 on;rule a not ";
        due("left at 0 0 is 5", made(wide + "(left=5);").mean(4, 0, 0, 0), 13000);
        due("up at 0 0 is 8", made(wide + "(up=8);").mean(4, 0, 0, 0), 13000);
        due("left is not 6", made(wide + "(left=6);").mean(4, 0, 0, 0), -1);
        due("up is not 9", made(wide + "(up=9);").mean(4, 0, 0, 0), -1);
        String near = "town 6 9;walk 1;bar 5 7 on;rule a ";
        due("left at 4 7 is 1", made(near + "not(left=1);").mean(4, 4, 7, 0), 2000);
        due("up at 4 7 is 1", made(near + "not(up=1);").mean(4, 4, 7, 0), 2000);
    }

    private void truth() {
        doc.says(T, "Of not, and, or, < and = comes 1 or 0; what is not 0 is so; ints wrap.");
        says("(5 and 7)=1", true);
        says("(5 or 7)=1", true);
        says("(0 or 7)=1", true);
        says("(not 0)=1", true);
        says("not 5=0", true);
        says("(1<9)+(9=9)=2", true);
        says("(1=2)+(2<1)=0", true);
        says("9999", true);
        says("0-9999 and 1", true);
        says("not (0-1)", false);
        says("4096*4096*128", true);
        says("4096*4096*128<0", true);
        says("4096*4096*256", false);
        says("4096*4096*128-1+1 = 0-4096*4096*128", true);
        says("0<4096*4096*128-1", true);
        says("4096*4096*128-1<0", false);
        says("4096*4096*127+4096*4095+4095+1<0", true);
        says("4096*4096*127+4096*4095+4095<0", false);
    }

    private void faultPlace() {
        doc.says(T, "FAULTS, kind + 16 * the place (from 0) of a token, the end being one at the text's length:");
        townFault("|x", 1);
        townFault(" \n|x", 1);
        townFault("town 1 1|", 1);
        townFault("town 1 1 \n |", 1);
        townFault(times(1000, " ") + "|", 1);
        townFault(times(999, " ") + "|x", 1);
        townFault("town 1 1;" + times(900, " ") + "walk |0;", 4);
        walkFault("town 2 2;", "on 1  |", 1);
        walkFault("town 2 2;", times(990, "\n") + "on 1|", 1);
        doc.says(T, "of the first token from the left that is wrong the least:");
        townFault("town |7 0;", 4);
        townFault("town 1 |0 ?", 4);
        townFault("town 2 2;bar |2 2 up", 4);
        townFault("town 2 2;walk 1;|walk 0;", 3);
        townFault("town 2 2;light 0 0 clock round 1 over |1 for 2;", 4);
        walkFault("town 2 2;", "over 0;|over 10000", 2);
        walkFault("town 2 2;", "over |;over 10000", 1);
    }

    private void faultOne() {
        doc.says(T, "1 it is none, or can't stand there (another line than town first, town again);");
        townFault("|walk 1;", 1);
        townFault("|light 0 0 clock round 1 over 0 for 0;", 1);
        townFault("|child;", 1);
        townFault("|rule a 1;", 1);
        townFault("town 1 1;|town 1 1;", 1);
        townFault("town 1 1;child;|town 2 2;", 1);
        townFault("town 1 1;|over 1;", 1);
        townFault("town 1 1;|clock;", 1);
        townFault("town 1 1;|(;", 1);
        townFault("town 1 1;|5;", 1);
        townFault("town |a 1;", 1);
        townFault("town |( 1;", 1);
    }

    private void faultTwo() {
        doc.says(T, "2 over, on of a WALK where it would go beyond the town, or is barred;");
        walkFault("town 1 1;", "|over 0;", 2);
        walkFault("town 1 1;", "|on 0;", 2);
        for (int over = 1; over <= 6; over++) {
            for (int on = 1; on <= 9; on++) {
                String town = "town " + over + " " + on + ";";
                walkFault(town, times(over - 1, "over 0;") + "|over 0;", 2);
                walkFault(town, times(on - 1, "on 0;") + "|on 0;", 2);
                goodWalk(made(town), times(over - 1, "over 0;") + times(on - 1, "on 0;"), over + on - 2);
                walkFault(town, times(over - 1, "over 0;") + times(on - 1, "on 0;") + "|on", 2);
                walkFault(town, times(on - 1, "on 0;") + times(over - 1, "over 0;") + "|over", 2);
            }
        }
        walkFault("town 3 3;bar 0 0 over;", "|over 0;", 2);
        walkFault("town 3 3;bar 1 1 on;", "over 0;on 0;|on 0;", 2);
        goodWalk(made("town 3 3;bar 1 1 on;"), "over 0;on 0;over 0;", 3);
        goodWalk(made("town 3 3;bar 1 1 on;"), "over 0;over 0;on 0;on 0;", 4);
        goodWalk(made("town 2 2;light 0 0 clock round 3 over 0 for 0;"), "over 0;", 1);
        goodWalk(made("town 2 2;light 0 0 clock round 3 over 0 for 3;"), "on 0;", 1);
    }

    private void faultThree() {
        doc.says(T, "3 the second NUMBER of a CORNER that has a light; the WAY of a bar told already; a NAME told already; walk, run, slow, runs, child a second time;");
        townFault("town 2 2;light 1 0 police round 1 over 0 for 0;light 1 |0 clock round 1 over 0 for 0;", 3);
        townFault("town 2 2;light 1 0 police round 1 over 0 for 0;light 1 |0", 3);
        townFault("town 2 2;light 1 0 police round 1 over 0 for 0;light 1 |0000", 3);
        townFault("town 2 2;light 1 0 police round 1 over 0 for 0;light 1 |2", 4);
        goodTown("town 2 2;light 1 0 police round 1 over 0 for 0;light 0 1 police round 1 over 0 for 0;");
        goodTown("town 2 2;bar 1 0 on;light 1 0 police round 1 over 0 for 0;bar 1 0 over;");
        townFault("town 2 2;bar 1 0 on;bar 1 0 |on", 3);
        townFault("town 2 2;rule a 1;rule |a", 3);
        townFault("town 2 2;slow 1;|slow", 3);
    }

    private void faultFour() {
        doc.says(T, "4 a NUMBER that is not as told;");
        townFault("town |0 1;", 4);
        townFault("town 6 |0;", 4);
        townFault("town 2 2;light |2 0", 4);
        townFault("town 2 2;light 0 |2", 4);
        townFault("town 2 2;bar |2 0 on;", 4);
        townFault("town 2 2;bar 0 |2 on;", 4);
        townFault("town 2 2;light 0 0 police round |61", 4);
        townFault("town 2 2;light 0 0 police round 60 over |60", 4);
        townFault("town 2 2;light 0 0 police round 60 over 59 for |61", 4);
        townFault("town 2 2;walk |0", 4);
        townFault("town 2 2;run |31", 4);
        townFault("town 2 2;slow |0", 4);
        townFault("town 2 2;runs |10", 4);
    }

    private void faultFive() {
        doc.says(T, "5 one too many: the words rule of a fifth, over, on of a 14th; not, or a PART, within 5 others.");
        townFault("town 2 2;rule a 1;rule b 1;rule c 1;rule d 1;|rule a 1;", 5);
        townFault("town 2 2;rule a not not not not not |not 1;", 5);
        townFault("town 2 2;rule a not not not not not |1;", 5);
        townFault("town 2 2;rule a (((((|(1))))));", 5);
        townFault("town 2 2;rule a (((((|over)))));", 5);
        townFault("town 2 2;rule a not(not(not|(1)));", 5);
    }

    private void leastFault() {
        doc.says(T, "of the first token from the left that is wrong the least:");
        String all = times(8, "on 0;") + times(5, "over 0;");
        walkFault("town 6 9;", all + "|over 0;", 2);
        walkFault("town 6 9;", all + "|on 0;", 2);
        walkFault("town 6 9;", all + "|up 0;", 1);
        walkFault("town 6 9;", all + "|;", 1);
        townFault("town 2 2;rule a not not not not not |and 1;", 1);
        townFault("town 2 2;rule a not not not not not |12345;", 1);
        townFault("town 2 2;rule a (((((|)))));", 1);
        townFault("town 2 2;rule a (((((|?)))));", 1);
        townFault("town 2 2;rule a not not not not not|", 1);
    }

    private void newTown() {
        doc.says(T, "Without a FAULT a TOWN is the TOWN from then on: no WALK, at CORNER 0 0, second 0, no hidden light KNOWN, nothing TRIED,"
            + " nothing he WAS at, nothing can be undone, no MARK is there.");
        String town = "town 2 3;walk 5;runs 2;light 0 0 hidden round 4 over 0 for 2;light 0 1 button round 9 over 3 for 0;rule a 1;";
        OverFirst x = made(town);
        for (String next : new String[] {"town 0 1;", town, "town 1 1;?", town}) {
            x.go(1, true);
            x.undo();
            x.look();
            x.go(1, true);
            goodWalk(x, "on 0;", 1);
            x.tried(0, 1, true, 1);
            x.was(0, 0, 0);
            x.mark(0, false);
            x.mark(3, false);
            int[] counts = {2, 3, 2, 1, 1, 0, 1, 7, 1, 0, 1, 1, 4, 2, 0};
            for (int what = 0; what < counts.length; what++) {
                due("ahead of " + next + ": count(" + what + ")", x.count(what), counts[what]);
            }
            int fault = Check.town(x, next);
            due("a fault in " + next, fault != 0, !next.equals(town));
            if (fault == 0) {
                counts = new int[] {2, 3, 2, 1, 0, 0, 0, 0, 2, 1, 0, 0, 4, 0, 0};
            }
            for (int what = 0; what < counts.length; what++) {
                due("behind " + next + ": count(" + what + ")", x.count(what), counts[what]);
            }
            due("judged()", x.judged(), fault == 0 ? -1 : 0);
            due("mark 0 is there", x.mark(0, true), fault != 0);
            due("mark 3 is there", x.mark(3, true), fault != 0);
            due("mark 1 is not", x.mark(1, true), false);
            due("undo", x.undo(), false);
            Check.town(x, town);
        }
    }

    private void newWalk() {
        doc.says(T, "A WALK is the WALK.");
        OverFirst x = made("town 2 3;walk 5;");
        x.go(1, false);
        x.mark(2, false);
        goodWalk(x, "on 0;on 4;", 2);
        due("judged", x.judged(), 1);
        where("a WALK", x, 0, 1, 5);
        due("what can be undone", x.count(13), 1);
        due("the mark is there", x.mark(2, true), true);
        due("a fault", Check.walk(x, "over 0;over 0;"), 2 + 16 * 7);
        due("the WALK stays", x.count(4), 2);
        due("the WALK stays", x.judged(), 1);
        goodWalk(x, "over 7;", 1);
        due("judged", x.judged(), -1);
        goodWalk(x, "", 0);
        due("judged", x.judged(), -1);
        due("the WALK begins at 0 0 wherever one is", Check.walk(x, "on 0;on 5;over 10;"), 0);
    }

    private void atFirst() {
        doc.says(T, "At first: town 1 1, nothing else.");
        OverFirst x = new OverFirst();
        int[] counts = {1, 1, 0, 0, 0, 0, 0, 0, 0, 0, 0, 0, 1, 0, 0};
        for (int what = 0; what < counts.length; what++) {
            due("count(" + what + ")", x.count(what), counts[what]);
        }
        due("light", x.light(0, 0, 0), -1);
        due("bars", x.light(0, 0, 5), 0);
        due("beyond", x.light(1, 0, 5), -1);
        due("beyond", x.light(0, 1, 5), -1);
        due("a WALK of a line", Check.walk(x, "over 0;"), 2);
        due("a mark", x.mark(0, true), false);
    }
}
