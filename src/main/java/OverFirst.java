import java.util.Arrays;

/** A town of corners and lights, and those who walk home through it. */
public final class OverFirst {
    public static final int NONE = -1;

    /** What soonest answers for nothing, as NONE asks there for the second. */
    private static final int NOTHING = -2;

    private static final int LAST_SECOND = 1000000;
    private static final int EVER = 0x7FFFFFFF;
    private static final int LAST_WAS_SECOND = 9999;
    private static final int LAST_TRIED_WAIT = 59;
    private static final int LONGEST_STAY = 1000;
    private static final int MOST_NIGHTS = 30;
    private static final int MOST_TURNS = 12;

    /** Corners are numbered row by row as if every town were as wide as the widest. */
    private static final int WIDEST = 6;
    private static final int HIGHEST = 9;
    private static final int CORNERS = WIDEST * HIGHEST;
    private static final int MOST_STREETS = WIDEST - 1 + HIGHEST - 1;

    private static final int OVER = 0;
    private static final int ON = 1;

    private static final int CLOCK = 0;
    private static final int HIDDEN = 1;
    private static final int BUTTON = 2;
    private static final int POLICE = 3;

    private static final int LONGEST_ROUND = 60;
    private static final int LONGEST_STREET = 30;
    private static final int MOST_RUNS = 9;
    private static final int MOST_COMMON = 1200;
    private static final int USUAL_WALK = 10;
    private static final int MOST_RULES = 4;

    private static final int WALKING = 0;
    private static final int RUNNING = 1;
    private static final int DAWDLING = 2;
    private static final int RUNS = 3;

    private static final int OVER_FIRST = 0;
    private static final int ON_FIRST = 1;
    private static final int WHICHEVER = 2;
    private static final int BEST = 3;
    private static final int FIRST_RULE = 4;

    private static final int TAPE_LENGTH = 1000;
    private static final int LONGEST_WORD = 8;
    private static final int LONGEST_NUMBER = 4;

    private static final int END = 0;
    private static final int STRANGE = 1;
    private static final int WORD = 2;
    private static final int NUMBER = 3;
    private static final int SIGN = 4;

    private static final int MISPLACED = 1;
    private static final int NO_WAY = 2;
    private static final int TOLD_ALREADY = 3;
    private static final int WRONG_NUMBER = 4;
    private static final int TOO_MANY = 5;

    private static final int DEEPEST_PART = 4;

    /** What a rule's code does; from PUSH on it is the number that it lays down, plus PUSH. */
    private static final int DO_NOT = 0;
    private static final int DO_AND = 1;
    private static final int DO_OR = 2;
    private static final int DO_LESS = 3;
    private static final int DO_SAME = 4;
    private static final int DO_PLUS = 5;
    private static final int DO_MINUS = 6;
    private static final int DO_TIMES = 7;
    private static final int DO_OVER = 8;
    private static final int DO_ON = 9;
    private static final int DO_LEFT = 10;
    private static final int DO_UP = 11;
    private static final int PUSH = 16;
    private static final int STACK = 64;

    /** A word of up to eight letters is held as its letters' bytes, the last one lowest. */
    private static final long TOWN_WORD = 0x746F776EL;
    private static final long LIGHT_WORD = 0x6C69676874L;
    private static final long BAR_WORD = 0x626172L;
    private static final long RULE_WORD = 0x72756C65L;
    private static final long WALK_WORD = 0x77616C6BL;
    private static final long RUN_WORD = 0x72756EL;
    private static final long SLOW_WORD = 0x736C6F77L;
    private static final long RUNS_WORD = 0x72756E73L;
    private static final long CHILD_WORD = 0x6368696C64L;
    private static final long ROUND_WORD = 0x726F756E64L;
    private static final long OVER_WORD = 0x6F766572L;
    private static final long ON_WORD = 0x6F6EL;
    private static final long FOR_WORD = 0x666F72L;
    private static final long CLOCK_WORD = 0x636C6F636BL;
    private static final long HIDDEN_WORD = 0x68696464656EL;
    private static final long BUTTON_WORD = 0x627574746F6EL;
    private static final long POLICE_WORD = 0x706F6C696365L;
    private static final long NOT_WORD = 0x6E6F74L;
    private static final long AND_WORD = 0x616E64L;
    private static final long OR_WORD = 0x6F72L;
    private static final long LEFT_WORD = 0x6C656674L;
    private static final long UP_WORD = 0x7570L;

    /** No rule may be named so; left and up may. */
    private static final long[] RESERVED = {
        TOWN_WORD, LIGHT_WORD, BAR_WORD, RULE_WORD, WALK_WORD, RUN_WORD, SLOW_WORD, RUNS_WORD,
        CHILD_WORD, ROUND_WORD, OVER_WORD, ON_WORD, FOR_WORD, CLOCK_WORD, HIDDEN_WORD,
        BUTTON_WORD, POLICE_WORD, NOT_WORD, AND_WORD, OR_WORD
    };

    private final Tape tape = new Tape();
    private final Reader reader = new Reader(tape);
    private final State state = new State();
    private final History history = new History();
    private final State[] marks = {new State(), new State(), new State(), new State()};
    private final boolean[] laid = new boolean[4];
    private final Goers goers = new Goers();
    private final Ways ways = new Ways();
    private final Pace paces = new Pace();
    private final Wave waves = new Wave();

    /** The town and the walk that hold, and the ones that the next text is read into. */
    private Town here = new Town();
    private Town spareTown = new Town();
    private Walk told = new Walk();
    private Walk spareWalk = new Walk();

    public OverFirst() {
        here.clear();
        here.complete();
    }

    public int feed(long a, long b, long c) {
        tape.append(a);
        tape.append(b);
        tape.append(c);
        return tape.length;
    }

    public int town() {
        int fault = reader.readTown(spareTown);
        if (fault == 0) {
            Town old = here;
            here = spareTown;
            spareTown = old;
            told.clear();
            state.clear();
            history.clear();
            forgetMarks();
            forgetReckonings();
        }
        return fault;
    }

    public int walk() {
        int fault = reader.readWalk(here, spareWalk);
        if (fault == 0) {
            Walk old = told;
            told = spareWalk;
            spareWalk = old;
            paces.forget();
        }
        return fault;
    }

    private void forgetMarks() {
        for (int mark = 0; mark < laid.length; mark++) {
            laid[mark] = false;
        }
    }

    private void forgetReckonings() {
        goers.forget();
        paces.forget();
        waves.forget();
    }

    public int light(int x, int y, int what) {
        int corner = here.corner(x, y);
        if (corner == NONE) {
            return NONE;
        }
        if (what == 5) {
            return here.bars[corner];
        }
        if (here.kind[corner] == NONE) {
            return NONE;
        }
        switch (what) {
            case 0: return here.kind[corner];
            case 1: return here.round[corner];
            case 2: return here.start[corner];
            case 3: return here.span[corner];
            case 4: return here.kind[corner] == HIDDEN && state.knows(corner) ? 1 : 0;
            default: return NONE;
        }
    }

    public int green(int x, int y, int way, int second) {
        int corner = here.corner(x, y);
        if (corner == NONE || !isSecond(second) || !here.isOpen(corner, way)) {
            return NONE;
        }
        if (here.kind[corner] == BUTTON) {
            return way == ON ? 1 : 0;
        }
        return here.waitFor(corner, way, second) == 0 ? 1 : 0;
    }

    public int until(int x, int y, int way, int second) {
        int corner = here.corner(x, y);
        if (corner == NONE || !isSecond(second) || !here.isOpen(corner, way)) {
            return NONE;
        }
        return here.waitFor(corner, way, second);
    }

    public int go(int way, boolean run) {
        if (!here.isOpen(state.corner, way) || run && runsLeft() <= 0) {
            return NONE;
        }
        history.keep(state);
        int street = here.setting[run ? RUNNING : WALKING];
        state.second += here.waitFor(state.corner, way, state.second) + street;
        state.corner = here.after(state.corner, way);
        state.runs += run ? 1 : 0;
        return state.second;
    }

    private int runsLeft() {
        return here.child ? 0 : here.setting[RUNS] - state.runs;
    }

    public int stay(int seconds) {
        if (seconds < 1 || seconds > LONGEST_STAY) {
            return NONE;
        }
        history.keep(state);
        state.second += seconds;
        return state.second;
    }

    public boolean look() {
        if (here.kind[state.corner] != HIDDEN || state.knows(state.corner)) {
            return false;
        }
        history.keep(state);
        state.known |= 1L << state.corner;
        return true;
    }

    public boolean undo() {
        return history.giveBack(state);
    }

    public int judged() {
        return told.firstWrong(here);
    }

    public int soonest(int x, int y, int second, int what) {
        int corner = here.corner(x, y);
        if (corner == NONE || !isSecond(second) || what < NONE || what >= MOST_STREETS) {
            return NOTHING;
        }
        if (what != NONE) {
            return ways.soonestWay(here, corner, second, what);
        }
        int then = ways.arrival(here, corner, second);
        return then == NONE ? NOTHING : then;
    }

    public int mean(int goer, int x, int y, int second) {
        return reckoned(goer, here.corner(x, y), second, false);
    }

    public int worst(int goer, int x, int y, int second) {
        return reckoned(goer, here.corner(x, y), second, true);
    }

    private int reckoned(int goer, int corner, int second, boolean atWorst) {
        if (corner == NONE || !isGoer(goer) || !isSecond(second)) {
            return NONE;
        }
        goers.ask(here, state.known, goer, atWorst);
        return goers.valueAt(corner, second);
    }

    public int choice(int x, int y, int second, int at) {
        int corner = here.corner(x, y);
        if (corner == NONE || corner == here.home() || !isSecond(second)) {
            return NONE;
        }
        goers.ask(here, state.known, BEST, false);
        int seen = second;
        if (goers.hides(corner)) {
            if (at < 0 || at >= here.round[corner]) {
                return NONE;
            }
            seen = at;
        }
        return goers.wayOf(corner, second, seen);
    }

    public int gap(int x, int y, int second) {
        int whichever = mean(WHICHEVER, x, y, second);
        int best = mean(BEST, x, y, second);
        return whichever == NONE || best == NONE ? NONE : whichever - best;
    }

    public int watch(int x, int y, int second) {
        int corner = here.corner(x, y);
        if (corner == NONE || reckoned(BEST, 0, second, false) == NONE || !goers.hides(corner)) {
            return NONE;
        }
        return goers.worthOfWatching(corner, second);
    }

    public int latest(int x, int y, int second) {
        int corner = here.corner(x, y);
        if (corner == NONE || !isSecond(second)) {
            return NONE;
        }
        return ways.lastAsSoon(here, corner, second);
    }

    public int turning(int second, int often) {
        if (!isSecond(second) || often < 0 || often > MOST_TURNS) {
            return NONE;
        }
        return ways.arrivalTurning(here, second, often);
    }

    public int worthiest(int second) {
        if (reckoned(BEST, 0, second, false) == NONE) {
            return NONE;
        }
        int corner = goers.mostWorthWatching(second);
        return corner == NONE ? NONE : 8 * (corner / WIDEST) + corner % WIDEST;
    }

    public int odds(int goer, int second, int by) {
        if (!isSecond(by) || reckoned(goer, 0, second, false) == NONE) {
            return NONE;
        }
        return goers.chanceOf(second, by);
    }

    public int pace(int second, int what) {
        if (!isSecond(second) || what < 0 || what >= 2 + told.count || told.count == 0) {
            return NONE;
        }
        if (!paces.solve(here, told, second)) {
            return NONE;
        }
        if (what == 0) {
            return paces.stands;
        }
        return what == 1 ? paces.end : paces.streets[what - 2];
    }

    public boolean tried(int x, int y, boolean pressed, int waited) {
        int corner = here.corner(x, y);
        if (corner == NONE || here.kind[corner] != BUTTON || waited < 0 || waited > LAST_TRIED_WAIT) {
            return false;
        }
        return state.addTry(corner, pressed, waited);
    }

    public long does(int x, int y, int what) {
        int corner = here.corner(x, y);
        if (corner == NONE || here.kind[corner] != BUTTON || what < 0 || what > 1) {
            return NONE;
        }
        return state.likelihood(corner, here.round[corner], here.start[corner] + 1, what);
    }

    public int wave(int x, int y, int many, boolean both, int what) {
        int corner = here.corner(x, y);
        if (corner == NONE || many < 2 || many > 4 || what < 0 || what >= many) {
            return NONE;
        }
        if (here.corner(x, y + many - 1) == NONE || !here.shareRound(corner, many)) {
            return NONE;
        }
        waves.solve(here, corner, many, both);
        return what == 0 ? waves.most : waves.beginnings[what];
    }

    public int rules() {
        int least = NONE;
        int which = NONE;
        for (int rule = 0; rule < here.ruleCount; rule++) {
            int takes = reckoned(FIRST_RULE + rule, 0, 0, false);
            if (takes != NONE && (least == NONE || takes < least)) {
                least = takes;
                which = rule;
            }
        }
        return which;
    }

    public boolean was(int x, int y, int second) {
        int corner = here.corner(x, y);
        if (corner == NONE || second < 0 || second > LAST_WAS_SECOND) {
            return false;
        }
        return state.addSighting(corner, second);
    }

    public long fits(int what) {
        if (what < 0 || what > 3) {
            return NONE;
        }
        ways.fitSightings(here, state);
        if (what == 0) {
            return ways.fitting;
        }
        if (ways.fitting == 0) {
            return NONE;
        }
        if (what == 1) {
            return ways.firstFitting;
        }
        return what == 2 ? ways.commonRows(0, 8) : ways.commonRows(8, HIGHEST);
    }

    public int nights(int seed, int many, int goer, int what) {
        if (many < 1 || many > MOST_NIGHTS || what < 0 || what > 1) {
            return NONE;
        }
        if (reckoned(goer, 0, 0, false) == NONE) {
            return NONE;
        }
        goers.spendNights(seed, many);
        return what == 0 ? goers.allNights : goers.longestNight;
    }

    public boolean mark(int mark, boolean back) {
        if (mark < 0 || mark >= marks.length || back && !laid[mark]) {
            return false;
        }
        if (back) {
            state.copy(marks[mark]);
            history.clear();
        } else {
            marks[mark].copy(state);
            laid[mark] = true;
        }
        return true;
    }

    public int count(int what) {
        switch (what) {
            case 0: return here.wide;
            case 1: return here.high;
            case 2: return here.lightCount;
            case 3: return here.ruleCount;
            case 4: return told.count;
            case 5: return state.corner % WIDEST;
            case 6: return state.corner / WIDEST;
            case 7: return state.second;
            case 8: return runsLeft();
            case 9: return hiddenLeft();
            case 10: return state.tries;
            case 11: return state.sightings;
            case 12: return here.common;
            case 13: return history.size;
            case 14: return tape.length;
            default: return NONE;
        }
    }

    private int hiddenLeft() {
        int left = 0;
        for (int corner = 0; corner < CORNERS; corner++) {
            if (here.kind[corner] == HIDDEN && !state.knows(corner)) {
                left++;
            }
        }
        return left;
    }

    private boolean isGoer(int goer) {
        return goer >= 0 && goer < FIRST_RULE + here.ruleCount;
    }

    private static boolean isSecond(int second) {
        return second >= 0 && second <= LAST_SECOND;
    }

    /** The lesser of two that may be NONE. */
    private static int lesser(int a, int b) {
        return a == NONE || b != NONE && b < a ? b : a;
    }

    private static int modulo(int number, int divisor) {
        return divisor > 0 ? Math.floorMod(number, divisor) : 0;
    }

    private static int commonMultiple(int a, int b) {
        long divisor = commonDivisor(a, b);
        return divisor > 0 ? (int) (a / divisor * b) : 0;
    }

    private static long commonDivisor(long a, long b) {
        long more = a;
        long less = b;
        for (int step = 0; step < 100 && less != 0; step++) {
            long rest = more % less;
            more = less;
            less = rest;
        }
        return more;
    }

    /** The signs that have been fed, and the token that is read next. */
    private static final class Tape {
        private final char[] signs = new char[TAPE_LENGTH];
        int length;

        int type;
        int place;
        int number;
        char sign;
        long word;
        private int next;

        void append(long eight) {
            for (int shift = 56; shift >= 0; shift -= 8) {
                char one = (char) (eight >>> shift & 255);
                if (length < TAPE_LENGTH && (one == 10 || one >= 32 && one <= 126)) {
                    signs[length] = one;
                    length++;
                }
            }
        }

        void clear() {
            length = 0;
        }

        void begin() {
            next = 0;
            advance();
        }

        void advance() {
            while (next < length && (signs[next] == 10 || signs[next] == 32)) {
                next++;
            }
            place = next;
            word = 0;
            while (next < length && signs[next] >= 'a' && signs[next] <= 'z') {
                word = word << 8 | signs[next];
                next++;
            }
            if (next > place) {
                type = next - place > LONGEST_WORD ? STRANGE : WORD;
                return;
            }
            number = 0;
            while (next < length && signs[next] >= '0' && signs[next] <= '9') {
                number = number * 10 + signs[next] - '0';
                next++;
            }
            if (next > place) {
                type = next - place > LONGEST_NUMBER ? STRANGE : NUMBER;
                return;
            }
            type = END;
            if (next < length) {
                sign = signs[next];
                type = "()<=+-*;".indexOf(sign) >= 0 ? SIGN : STRANGE;
                next++;
            }
        }

        boolean isWord(long which) {
            return type == WORD && word == which;
        }

        boolean isSign(char which) {
            return type == SIGN && sign == which;
        }
    }

    /** Reads the tape as a town or as a walk; what is read goes into rows that are thrown away with a fault. */
    private static final class Reader {
        private final Tape tape;
        private Town town;
        private int fault;
        private int number;

        Reader(Tape tape) {
            this.tape = tape;
        }

        int readTown(Town into) {
            town = into;
            town.clear();
            fault = 0;
            tape.begin();
            boolean good = readSize();
            for (int line = 0; line < TAPE_LENGTH && good && tape.type != END; line++) {
                good = readLine();
            }
            if (good) {
                town.complete();
            }
            tape.clear();
            return fault;
        }

        int readWalk(Town through, Walk into) {
            town = through;
            into.clear();
            fault = 0;
            tape.begin();
            boolean good = true;
            for (int line = 0; line < TAPE_LENGTH && good && tape.type != END; line++) {
                good = readStep(into);
            }
            tape.clear();
            return fault;
        }

        private boolean readStep(Walk into) {
            int way = wayTold();
            if (way == NONE) {
                return fail(MISPLACED);
            }
            int corner = into.end;
            if (town.isBeyond(corner, way) || town.isBarred(corner, way)) {
                return fail(NO_WAY);
            }
            if (into.count >= MOST_STREETS) {
                return fail(TOO_MANY);
            }
            tape.advance();
            if (!takeNumber(0, LAST_WAS_SECOND)) {
                return false;
            }
            into.add(corner, way, number, town.after(corner, way));
            return takeSign(';');
        }

        private boolean readSize() {
            if (!takeWord(TOWN_WORD) || !takeNumber(1, WIDEST)) {
                return false;
            }
            town.wide = number;
            if (!takeNumber(1, HIGHEST)) {
                return false;
            }
            town.high = number;
            return takeSign(';');
        }

        private boolean readLine() {
            if (tape.isWord(LIGHT_WORD)) {
                return readLight();
            }
            if (tape.isWord(BAR_WORD)) {
                return readBar();
            }
            if (tape.isWord(RULE_WORD)) {
                return readRule();
            }
            if (tape.isWord(WALK_WORD)) {
                return readSetting(WALKING, 1, LONGEST_STREET);
            }
            if (tape.isWord(RUN_WORD)) {
                return readSetting(RUNNING, 1, LONGEST_STREET);
            }
            if (tape.isWord(SLOW_WORD)) {
                return readSetting(DAWDLING, 1, LONGEST_STREET);
            }
            if (tape.isWord(RUNS_WORD)) {
                return readSetting(RUNS, 0, MOST_RUNS);
            }
            return tape.isWord(CHILD_WORD) ? readChild() : fail(MISPLACED);
        }

        private boolean readLight() {
            tape.advance();
            if (!takeNumber(0, town.wide - 1)) {
                return false;
            }
            int corner = number;
            if (!isNumber(0, town.high - 1)) {
                return false;
            }
            corner += WIDEST * tape.number;
            if (town.kind[corner] != NONE) {
                return fail(TOLD_ALREADY);
            }
            tape.advance();
            int kind = kindTold();
            if (kind == NONE) {
                return fail(MISPLACED);
            }
            town.kind[corner] = kind;
            town.lightCount++;
            tape.advance();
            return readRound(corner) && readGreen(corner) && takeSign(';');
        }

        private boolean readRound(int corner) {
            if (!takeWord(ROUND_WORD) || !isNumber(1, LONGEST_ROUND)) {
                return false;
            }
            town.round[corner] = tape.number;
            if (town.isTimed(corner)) {
                int common = commonMultiple(town.common, tape.number);
                if (common > MOST_COMMON) {
                    return fail(WRONG_NUMBER);
                }
                town.common = common;
            }
            tape.advance();
            return true;
        }

        private boolean readGreen(int corner) {
            if (!takeWord(OVER_WORD) || !takeNumber(0, town.round[corner] - 1)) {
                return false;
            }
            town.start[corner] = number;
            if (!takeWord(FOR_WORD) || !takeNumber(0, town.round[corner])) {
                return false;
            }
            town.span[corner] = number;
            return true;
        }

        private boolean readBar() {
            tape.advance();
            if (!takeNumber(0, town.wide - 1)) {
                return false;
            }
            int corner = number;
            if (!takeNumber(0, town.high - 1)) {
                return false;
            }
            corner += WIDEST * number;
            int way = wayTold();
            if (way == NONE) {
                return fail(MISPLACED);
            }
            if (town.isBarred(corner, way)) {
                return fail(TOLD_ALREADY);
            }
            town.bars[corner] |= 1 << way;
            tape.advance();
            return takeSign(';');
        }

        private boolean readSetting(int which, int least, int most) {
            if (town.setting[which] != NONE) {
                return fail(TOLD_ALREADY);
            }
            tape.advance();
            if (!takeNumber(least, most)) {
                return false;
            }
            town.setting[which] = number;
            return takeSign(';');
        }

        private boolean readChild() {
            if (town.child) {
                return fail(TOLD_ALREADY);
            }
            town.child = true;
            tape.advance();
            return takeSign(';');
        }

        private boolean readRule() {
            if (town.ruleCount >= MOST_RULES) {
                return fail(TOO_MANY);
            }
            tape.advance();
            if (tape.type != WORD || isReserved(tape.word)) {
                return fail(MISPLACED);
            }
            if (town.hasRule(tape.word)) {
                return fail(TOLD_ALREADY);
            }
            long name = tape.word;
            tape.advance();
            if (!readExpression(0)) {
                return false;
            }
            town.addRule(name);
            return takeSign(';');
        }

        private boolean readExpression(int depth) {
            boolean good = readTest(depth);
            for (int more = 0; more < TAPE_LENGTH && good; more++) {
                boolean and = tape.isWord(AND_WORD);
                if (!and && !tape.isWord(OR_WORD)) {
                    return true;
                }
                tape.advance();
                good = readTest(depth);
                town.addCode(and ? DO_AND : DO_OR);
            }
            return good;
        }

        private boolean readTest(int depth) {
            if (!readSum(depth)) {
                return false;
            }
            boolean less = tape.isSign('<');
            if (!less && !tape.isSign('=')) {
                return true;
            }
            tape.advance();
            boolean good = readSum(depth);
            town.addCode(less ? DO_LESS : DO_SAME);
            return good;
        }

        private boolean readSum(int depth) {
            boolean good = readProduct(depth);
            for (int more = 0; more < TAPE_LENGTH && good; more++) {
                boolean plus = tape.isSign('+');
                if (!plus && !tape.isSign('-')) {
                    return true;
                }
                tape.advance();
                good = readProduct(depth);
                town.addCode(plus ? DO_PLUS : DO_MINUS);
            }
            return good;
        }

        private boolean readProduct(int depth) {
            boolean good = readPart(depth);
            for (int more = 0; more < TAPE_LENGTH && good && tape.isSign('*'); more++) {
                tape.advance();
                good = readPart(depth);
                town.addCode(DO_TIMES);
            }
            return good;
        }

        private boolean readPart(int depth) {
            int plain = plainPart();
            boolean not = tape.isWord(NOT_WORD);
            boolean bracket = tape.isSign('(');
            if (plain == NONE && !not && !bracket) {
                return fail(MISPLACED);
            }
            if (depth > DEEPEST_PART) {
                return fail(TOO_MANY);
            }
            tape.advance();
            if (bracket) {
                return readExpression(depth + 1) && takeSign(')');
            }
            boolean good = !not || readPart(depth + 1);
            town.addCode(not ? DO_NOT : plain);
            return good;
        }

        /** The code of a number or a fact, or NONE. */
        private int plainPart() {
            if (tape.type == NUMBER) {
                return PUSH + tape.number;
            }
            if (tape.isWord(LEFT_WORD)) {
                return DO_LEFT;
            }
            if (tape.isWord(UP_WORD)) {
                return DO_UP;
            }
            int way = wayTold();
            return way == NONE ? NONE : way == OVER ? DO_OVER : DO_ON;
        }

        private int wayTold() {
            if (tape.isWord(OVER_WORD)) {
                return OVER;
            }
            return tape.isWord(ON_WORD) ? ON : NONE;
        }

        private int kindTold() {
            if (tape.isWord(CLOCK_WORD)) {
                return CLOCK;
            }
            if (tape.isWord(HIDDEN_WORD)) {
                return HIDDEN;
            }
            if (tape.isWord(BUTTON_WORD)) {
                return BUTTON;
            }
            return tape.isWord(POLICE_WORD) ? POLICE : NONE;
        }

        private static boolean isReserved(long word) {
            for (long one : RESERVED) {
                if (one == word) {
                    return true;
                }
            }
            return false;
        }

        private boolean takeWord(long which) {
            if (!tape.isWord(which)) {
                return fail(MISPLACED);
            }
            tape.advance();
            return true;
        }

        private boolean takeSign(char which) {
            if (!tape.isSign(which)) {
                return fail(MISPLACED);
            }
            tape.advance();
            return true;
        }

        private boolean takeNumber(int least, int most) {
            if (!isNumber(least, most)) {
                return false;
            }
            number = tape.number;
            tape.advance();
            return true;
        }

        private boolean isNumber(int least, int most) {
            if (tape.type != NUMBER) {
                return fail(MISPLACED);
            }
            return tape.number >= least && tape.number <= most || fail(WRONG_NUMBER);
        }

        private boolean fail(int kind) {
            fault = kind + 16 * tape.place;
            return false;
        }
    }

    /** Corners, lights, bars, paces and rules as they are told. */
    private static final class Town {
        int wide;
        int high;
        final int[] kind = new int[CORNERS];
        final int[] round = new int[CORNERS];
        final int[] start = new int[CORNERS];
        final int[] span = new int[CORNERS];
        final int[] bars = new int[CORNERS];
        final int[] setting = new int[4];
        boolean child;
        int lightCount;
        int common;
        int ruleCount;

        /** Which ways one can go at all, found once the whole town is told. */
        private final int[] open = new int[CORNERS];
        private final long[] names = new long[MOST_RULES];
        private final int[] ruleEnds = new int[MOST_RULES];
        private final int[] code = new int[TAPE_LENGTH];
        private int codeLength;
        private final int[] stack = new int[STACK];

        void clear() {
            wide = 1;
            high = 1;
            Arrays.fill(kind, NONE);
            Arrays.fill(bars, 0);
            Arrays.fill(setting, NONE);
            child = false;
            lightCount = 0;
            common = 1;
            ruleCount = 0;
            codeLength = 0;
        }

        void complete() {
            setUnlessTold(WALKING, USUAL_WALK);
            setUnlessTold(RUNNING, setting[WALKING]);
            setUnlessTold(DAWDLING, setting[WALKING]);
            setUnlessTold(RUNS, 0);
            for (int corner = 0; corner < CORNERS; corner++) {
                open[corner] = (opens(corner, OVER) ? 1 : 0) + (opens(corner, ON) ? 2 : 0);
            }
        }

        private void setUnlessTold(int which, int value) {
            if (setting[which] == NONE) {
                setting[which] = value;
            }
        }

        private boolean opens(int corner, int way) {
            if (isBeyond(corner, way) || isBarred(corner, way)) {
                return false;
            }
            return !isTimed(corner) || (way == OVER ? span[corner] > 0 : span[corner] < round[corner]);
        }

        int corner(int x, int y) {
            return x >= 0 && x < wide && y >= 0 && y < high ? y * WIDEST + x : NONE;
        }

        int home() {
            return (high - 1) * WIDEST + wide - 1;
        }

        int after(int corner, int way) {
            return way == OVER ? corner + 1 : corner + WIDEST;
        }

        int streetsHome(int corner) {
            return wide - 1 - corner % WIDEST + high - 1 - corner / WIDEST;
        }

        /** No way takes longer: as if one waited at every corner as long as one can at any. */
        int longestWay() {
            int wait = 0;
            for (int corner = 0; corner < CORNERS; corner++) {
                if (isTimed(corner)) {
                    wait = Math.max(wait, round[corner] - 1);
                } else if (kind[corner] == BUTTON) {
                    wait = Math.max(wait, start[corner]);
                }
            }
            return streetsHome(0) * (wait + setting[WALKING]);
        }

        boolean isBeyond(int corner, int way) {
            return way == OVER ? corner % WIDEST >= wide - 1 : corner / WIDEST >= high - 1;
        }

        boolean isBarred(int corner, int way) {
            return (bars[corner] >> way & 1) != 0;
        }

        boolean isTimed(int corner) {
            return kind[corner] == CLOCK || kind[corner] == HIDDEN;
        }

        boolean isOpen(int corner, int way) {
            return (way == OVER || way == ON) && (open[corner] >> way & 1) != 0;
        }

        int waitFor(int corner, int way, int second) {
            if (kind[corner] == BUTTON) {
                return way == OVER ? start[corner] : 0;
            }
            if (!isTimed(corner)) {
                return 0;
            }
            int since = round[corner] > 0 ? Math.floorMod(second - start[corner], round[corner]) : 0;
            if (since < span[corner]) {
                return way == OVER ? 0 : span[corner] - since;
            }
            return way == OVER ? round[corner] - since : 0;
        }

        boolean shareRound(int corner, int many) {
            for (int behind = 0; behind < many; behind++) {
                int other = corner + behind * WIDEST;
                if (other >= CORNERS || !isTimed(other) || round[other] != round[corner]) {
                    return false;
                }
            }
            return true;
        }

        boolean hasRule(long name) {
            for (int rule = 0; rule < ruleCount; rule++) {
                if (names[rule] == name) {
                    return true;
                }
            }
            return false;
        }

        void addCode(int one) {
            if (codeLength < TAPE_LENGTH) {
                code[codeLength] = one;
                codeLength++;
            }
        }

        void addRule(long name) {
            if (ruleCount < MOST_RULES) {
                names[ruleCount] = name;
                ruleEnds[ruleCount] = codeLength;
                ruleCount++;
            }
        }

        /** A rule is asked only where one can go both ways, so neither wait is the 999 of a way that is shut. */
        boolean ruleSaysOver(int rule, int corner, int overWait, int onWait) {
            if (rule < 0 || rule >= ruleCount) {
                return false;
            }
            int depth = 0;
            for (int at = rule == 0 ? 0 : ruleEnds[rule - 1]; at < ruleEnds[rule]; at++) {
                int one = code[at];
                if (one == DO_NOT && depth >= 1) {
                    stack[depth - 1] = stack[depth - 1] == 0 ? 1 : 0;
                } else if (one >= DO_OVER && depth < STACK) {
                    stack[depth] = one == DO_OVER ? overWait : one == DO_ON ? onWait : placeOrNumber(one, corner);
                    depth++;
                } else if (depth >= 2) {
                    depth--;
                    stack[depth - 1] = joined(one, stack[depth - 1], stack[depth]);
                }
            }
            return stack[0] != 0;
        }

        private int placeOrNumber(int one, int corner) {
            if (one == DO_LEFT) {
                return wide - 1 - corner % WIDEST;
            }
            return one == DO_UP ? high - 1 - corner / WIDEST : one - PUSH;
        }

        private static int joined(int one, int a, int b) {
            switch (one) {
                case DO_AND: return a != 0 && b != 0 ? 1 : 0;
                case DO_OR: return a != 0 || b != 0 ? 1 : 0;
                case DO_LESS: return a < b ? 1 : 0;
                case DO_SAME: return a == b ? 1 : 0;
                case DO_PLUS: return a + b;
                case DO_MINUS: return a - b;
                default: return a * b;
            }
        }
    }

    /** The lines of a walk, each with the corner at which it is gone. */
    private static final class Walk {
        int count;
        int end;
        final int[] corners = new int[MOST_STREETS];
        final int[] ways = new int[MOST_STREETS];
        private final int[] seconds = new int[MOST_STREETS];

        void clear() {
            count = 0;
            end = 0;
        }

        void add(int corner, int way, int second, int next) {
            if (count < MOST_STREETS) {
                corners[count] = corner;
                ways[count] = way;
                seconds[count] = second;
                end = next;
                count++;
            }
        }

        int firstWrong(Town town) {
            int come = 0;
            for (int line = 0; line < count; line++) {
                int second = seconds[line];
                if (second < come || !isGreenFor(town, line, second - come)) {
                    return line;
                }
                come = second + town.setting[WALKING];
            }
            return NONE;
        }

        private boolean isGreenFor(Town town, int line, int stood) {
            int wait = town.waitFor(corners[line], ways[line], seconds[line]);
            return town.kind[corners[line]] == BUTTON ? stood >= wait : wait == 0;
        }
    }

    /** All that a mark holds. */
    private static final class State {
        private static final int MOST_TRIES = 10;
        private static final int MOST_SIGHTINGS = 8;

        int corner;
        int second;
        int runs;
        long known;
        int tries;
        int sightings;
        private final int[] tryCorners = new int[MOST_TRIES];
        /** The seconds waited, or NONE where it was not pressed: that tells nothing. */
        private final int[] tryWaits = new int[MOST_TRIES];
        private final int[] sightingCorners = new int[MOST_SIGHTINGS];
        private final int[] sightingSeconds = new int[MOST_SIGHTINGS];

        void clear() {
            corner = 0;
            second = 0;
            runs = 0;
            known = 0;
            tries = 0;
            sightings = 0;
        }

        void copy(State other) {
            corner = other.corner;
            second = other.second;
            runs = other.runs;
            known = other.known;
            tries = other.tries;
            sightings = other.sightings;
            System.arraycopy(other.tryCorners, 0, tryCorners, 0, MOST_TRIES);
            System.arraycopy(other.tryWaits, 0, tryWaits, 0, MOST_TRIES);
            System.arraycopy(other.sightingCorners, 0, sightingCorners, 0, MOST_SIGHTINGS);
            System.arraycopy(other.sightingSeconds, 0, sightingSeconds, 0, MOST_SIGHTINGS);
        }

        boolean knows(int which) {
            return (known >> which & 1) != 0;
        }

        boolean addTry(int where, boolean pressed, int waited) {
            if (tries >= MOST_TRIES) {
                return false;
            }
            tryCorners[tries] = where;
            tryWaits[tries] = pressed ? waited : NONE;
            tries++;
            return true;
        }

        boolean addSighting(int where, int when) {
            if (sightings >= MOST_SIGHTINGS) {
                return false;
            }
            sightingCorners[sightings] = where;
            sightingSeconds[sightings] = when;
            sightings++;
            return true;
        }

        /** Each wait is one of so many that are alike: so the likelihoods are their counts' powers, crosswise. */
        long likelihood(int where, int waitsIfNot, int waitsIfSo, int what) {
            long so = 1;
            long not = 1;
            for (int one = 0; one < tries; one++) {
                if (tryCorners[one] == where && tryWaits[one] != NONE) {
                    so *= tryWaits[one] < waitsIfSo ? waitsIfNot : 0;
                    not *= tryWaits[one] < waitsIfNot ? waitsIfSo : 0;
                }
            }
            long divisor = commonDivisor(so, so + not);
            if (divisor == 0) {
                return NONE;
            }
            return what == 0 ? so / divisor : (so + not) / divisor;
        }

        /** How many sightings at a corner fit who is there from one second to another, or NONE if one does not. */
        int sightingsWithin(int where, int come, int leave) {
            int within = 0;
            for (int one = 0; one < sightings; one++) {
                if (sightingCorners[one] == where) {
                    if (sightingSeconds[one] < come || sightingSeconds[one] > leave) {
                        return NONE;
                    }
                    within++;
                }
            }
            return within;
        }
    }

    /** The last steps by hand, each as what was before it. */
    private static final class History {
        private static final int MOST = 16;

        int size;
        private int top;
        private final int[] corners = new int[MOST];
        private final int[] seconds = new int[MOST];
        private final int[] runs = new int[MOST];
        private final long[] knowns = new long[MOST];

        void clear() {
            size = 0;
        }

        void keep(State state) {
            corners[top] = state.corner;
            seconds[top] = state.second;
            runs[top] = state.runs;
            knowns[top] = state.known;
            top = (top + 1) % MOST;
            size = Math.min(size + 1, MOST);
        }

        boolean giveBack(State state) {
            if (size == 0) {
                return false;
            }
            top = (top + MOST - 1) % MOST;
            size--;
            state.corner = corners[top];
            state.second = seconds[top];
            state.runs = runs[top];
            state.known = knowns[top];
            return true;
        }
    }

    /** Numbers reckoned before, each good as long as its group's edition is. */
    private static final class Memo {
        private static final int MOST_GROUPS = CORNERS;

        private long[] cells = new long[0];
        private final int[] editions = new int[MOST_GROUPS];
        private int newest;

        void clear(int size) {
            if (size > cells.length) {
                cells = new long[Math.max(size, 2 * cells.length)];
            }
            newest++;
            Arrays.fill(editions, newest);
        }

        /** Forgets what depends on a corner: the corners from which one can come to it. */
        void clearBefore(int corner) {
            newest++;
            for (int one = 0; one <= corner; one++) {
                if (one % WIDEST <= corner % WIDEST) {
                    editions[one] = newest;
                }
            }
        }

        boolean holds(int group, int cell) {
            return cell >= 0 && cell < cells.length && cells[cell] >> 32 == editions[group];
        }

        int number(int cell) {
            return (int) cells[cell];
        }

        void put(int group, int cell, int number) {
            if (cell >= 0 && cell < cells.length) {
                cells[cell] = (long) editions[group] << 32 | number & 0xFFFFFFFFL;
            }
        }
    }

    /** What goers take who see a hidden light's clock only as they come there. */
    private static final class Goers {
        private static final int MILLION = 1000000;

        int allNights;
        int longestNight;

        private final Memo values = new Memo();
        private final Memo chances = new Memo();
        /** How far a light's clock stands ahead of the one told: of a light that is watched, or by a night's draws. */
        private final int[] ahead = new int[CORNERS];
        private final int[] drawn = new int[CORNERS];
        private final int[] periods = new int[CORNERS];
        private boolean asked;
        private Town town;
        private long known;
        private int goer;
        private boolean atWorst;
        private int unit;
        private int home;
        private int street;
        private int setOut;
        private int deadline;
        /** Above what any way of the town can take. */
        private int tooLong;

        void forget() {
            asked = false;
        }

        void ask(Town where, long knownLights, int who, boolean worst) {
            if (asked && knownLights == known && who == goer && worst == atWorst) {
                return;
            }
            asked = true;
            town = where;
            known = knownLights;
            goer = who;
            atWorst = worst;
            unit = worst ? 1 : 1000;
            home = town.home();
            street = town.setting[WALKING];
            values.clear((home + 1) * town.common);
            findPeriods();
        }

        /** From a corner on all is alike again once the clocks that one can come to stand as before; hidden ones don't count. */
        private void findPeriods() {
            periods[home] = 1;
            for (int corner = home - 1; corner >= 0; corner--) {
                int period = town.isTimed(corner) && !hides(corner) ? town.round[corner] : 1;
                for (int way = OVER; way <= ON; way++) {
                    if (town.isOpen(corner, way)) {
                        period = commonMultiple(period, periods[town.after(corner, way)]);
                    }
                }
                periods[corner] = period;
            }
        }

        boolean hides(int corner) {
            return town.kind[corner] == HIDDEN && (known >> corner & 1) == 0;
        }

        int valueAt(int corner, int anySecond) {
            if (corner == home) {
                return 0;
            }
            int period = periods[corner];
            int second = period > 0 ? anySecond % period : 0;
            int cell = corner * town.common + second;
            if (values.holds(corner, cell)) {
                return values.number(cell);
            }
            int value;
            if (hides(corner)) {
                value = goer == BEST ? bestOverRound(corner, second) : valueOverRound(corner, second);
            } else {
                int seen = second + ahead[corner];
                value = valueSeen(corner, second, town.waitFor(corner, OVER, seen), town.waitFor(corner, ON, seen));
            }
            values.put(corner, cell, value);
            return value;
        }

        private int valueOverRound(int corner, int second) {
            int round = town.round[corner];
            int span = town.span[corner];
            int sum = 0;
            int most = 0;
            for (int since = 0; since < round; since++) {
                int overWait = since < span ? 0 : round - since;
                int onWait = since < span ? span - since : 0;
                int value = valueSeen(corner, second, overWait, onWait);
                if (value == NONE) {
                    return NONE;
                }
                sum += value;
                most = Math.max(most, value);
            }
            return atWorst || round < 1 ? most : sum / round;
        }

        private int bestOverRound(int corner, int second) {
            int round = town.round[corner];
            int span = town.span[corner];
            int whileOver = bestWhile(valueBy(corner, OVER, second, 0), corner, ON, second, span);
            int whileOn = bestWhile(valueBy(corner, ON, second, 0), corner, OVER, second, round - span);
            if (whileOver == NONE || whileOn == NONE) {
                return NONE;
            }
            return atWorst || round < 1 ? Math.max(whileOver, whileOn) : (whileOver + whileOn) / round;
        }

        /** All (or the most) over the seconds at which one way is green, the other one being so from 1 to so many later. */
        private int bestWhile(int green, int corner, int later, int second, int seconds) {
            int all = 0;
            int least = leastFrom(corner);
            for (int wait = 1; wait <= seconds; wait++) {
                if (green != NONE && green <= least + wait * unit) {
                    return atWorst ? Math.max(all, green) : all + (seconds - wait + 1) * green;
                }
                int value = lesser(green, valueBy(corner, later, second, wait));
                if (value == NONE) {
                    return NONE;
                }
                all = atWorst ? Math.max(all, value) : all + value;
            }
            return all;
        }

        /** What the streets alone take: a way that has to be waited for needn't be reckoned if even so it is no less. */
        private int leastFrom(int corner) {
            return town.streetsHome(corner) * street * unit;
        }

        private int valueSeen(int corner, int second, int overWait, int onWait) {
            if (goer == BEST) {
                int over = valueBy(corner, OVER, second, overWait);
                boolean enough = over != NONE && over <= leastFrom(corner) + onWait * unit;
                return enough ? over : lesser(over, valueBy(corner, ON, second, onWait));
            }
            int way = plainWay(corner, overWait, onWait);
            return valueBy(corner, way, second, way == OVER ? overWait : onWait);
        }

        private int valueBy(int corner, int way, int second, int wait) {
            if (!town.isOpen(corner, way)) {
                return NONE;
            }
            int spent = wait + street;
            int rest = valueAt(town.after(corner, way), second + spent);
            return rest == NONE ? NONE : rest + spent * unit;
        }

        int wayOf(int corner, int second, int seen) {
            int overWait = town.waitFor(corner, OVER, seen);
            int onWait = town.waitFor(corner, ON, seen);
            if (goer != BEST) {
                return plainWay(corner, overWait, onWait);
            }
            int over = valueBy(corner, OVER, second, overWait);
            int on = valueBy(corner, ON, second, onWait);
            if (over == NONE && on == NONE) {
                return NONE;
            }
            return on == NONE || over != NONE && over <= on ? OVER : ON;
        }

        private int plainWay(int corner, int overWait, int onWait) {
            boolean over = town.isOpen(corner, OVER);
            boolean on = town.isOpen(corner, ON);
            if (!over || !on) {
                return over ? OVER : on ? ON : NONE;
            }
            switch (goer) {
                case OVER_FIRST: return OVER;
                case ON_FIRST: return ON;
                case WHICHEVER: return overWait <= onWait ? OVER : ON;
                default: return town.ruleSaysOver(goer - FIRST_RULE, corner, overWait, onWait) ? OVER : ON;
            }
        }

        /**
         * A period of the other clocks later only the watched one stands elsewhere: so what was reckoned for one
         * of its stands serves for all those that such periods lead to.
         */
        int worthOfWatching(int corner, int second) {
            int unwatched = valueAt(0, second);
            int others = periods[0];
            int round = town.round[corner];
            int apart = (int) commonDivisor(round, others);
            if (apart < 1 || round < 1) {
                return 0;
            }
            int sum = 0;
            known |= 1L << corner;
            findPeriods();
            for (int stand = 0; stand < apart; stand++) {
                ahead[corner] = stand;
                values.clearBefore(corner);
                for (int later = 0; later < round / apart; later++) {
                    sum += valueAt(0, second + later * others);
                }
            }
            known &= ~(1L << corner);
            findPeriods();
            ahead[corner] = 0;
            values.clearBefore(corner);
            return unwatched - sum / round;
        }

        int mostWorthWatching(int second) {
            int worthiest = NONE;
            int most = 0;
            for (int corner = 0; corner < CORNERS; corner++) {
                if (hides(corner)) {
                    int worth = worthOfWatching(corner, second);
                    if (worthiest == NONE || worth > most) {
                        worthiest = corner;
                        most = worth;
                    }
                }
            }
            return worthiest;
        }

        int chanceOf(int second, int by) {
            setOut = second;
            deadline = by;
            tooLong = town.longestWay() + 1;
            chances.clear((home + 1) * tooLong);
            return chanceAt(0, 0);
        }

        private int chanceAt(int corner, int spent) {
            if (setOut + spent > deadline || spent >= tooLong) {
                return 0;
            }
            if (corner == home) {
                return MILLION;
            }
            int cell = corner * tooLong + spent;
            if (chances.holds(corner, cell)) {
                return chances.number(cell);
            }
            int chance = hides(corner)
                ? chanceOverRound(corner, spent)
                : chanceSeen(corner, spent, setOut + spent);
            chances.put(corner, cell, chance);
            return chance;
        }

        private int chanceOverRound(int corner, int spent) {
            int round = town.round[corner];
            int sum = 0;
            for (int seen = 0; seen < round; seen++) {
                sum += chanceSeen(corner, spent, seen);
            }
            return round < 1 ? 0 : sum / round;
        }

        private int chanceSeen(int corner, int spent, int seen) {
            int way = wayOf(corner, setOut + spent, seen);
            if (way == NONE) {
                return 0;
            }
            int more = town.waitFor(corner, way, seen) + street;
            return chanceAt(town.after(corner, way), spent + more);
        }

        void spendNights(int seed, int many) {
            allNights = 0;
            longestNight = 0;
            long draw = seed;
            for (int night = 0; night < many; night++) {
                draw = drawLights(draw);
                int seconds = walkHome();
                allNights += seconds;
                longestNight = Math.max(longestNight, seconds);
            }
        }

        private long drawLights(long seed) {
            long draw = seed;
            for (int corner = 0; corner < CORNERS; corner++) {
                drawn[corner] = 0;
                if (hides(corner)) {
                    draw = draw * 1103515245 + 12345 & 0x7FFFFFFF;
                    drawn[corner] = modulo((int) (draw / 65536), town.round[corner]);
                }
            }
            return draw;
        }

        private int walkHome() {
            int corner = 0;
            int second = 0;
            for (int gone = 0; gone < MOST_STREETS && corner != home; gone++) {
                int seen = second + drawn[corner];
                int way = wayOf(corner, second, seen);
                if (way == NONE) {
                    return second;
                }
                second += town.waitFor(corner, way, seen) + street;
                corner = town.after(corner, way);
            }
            return second;
        }
    }

    /** Ways home with each light as it is told. */
    private static final class Ways {
        int fitting;
        long firstFitting;

        private long common;
        private Town town;
        private State state;
        private final int[] arrivals = new int[CORNERS];
        private final int[] turned = new int[CORNERS * 2 * (MOST_TURNS + 1)];

        /** Who comes sooner is never home later, so the soonest at each corner is enough. */
        int arrival(Town where, int corner, int second) {
            town = where;
            Arrays.fill(arrivals, NONE);
            arrivals[corner] = second;
            int home = town.home();
            for (int one = corner; one < home; one++) {
                if (arrivals[one] != NONE) {
                    pass(one, OVER);
                    pass(one, ON);
                }
            }
            return arrivals[home];
        }

        private void pass(int corner, int way) {
            if (town.isOpen(corner, way)) {
                int next = town.after(corner, way);
                arrivals[next] = lesser(arrivals[next], afterStreet(corner, way, arrivals[corner]));
            }
        }

        private int afterStreet(int corner, int way, int second) {
            return second + town.waitFor(corner, way, second) + town.setting[WALKING];
        }

        int soonestWay(Town where, int from, int second, int which) {
            int soonest = arrival(where, from, second);
            if (soonest == NONE) {
                return NOTHING;
            }
            int corner = from;
            int now = second;
            for (int street = 0; street < MOST_STREETS && corner != town.home(); street++) {
                int way = isAsSoonOver(corner, now, soonest) ? OVER : ON;
                if (street == which) {
                    return way;
                }
                now = afterStreet(corner, way, now);
                corner = town.after(corner, way);
            }
            return NOTHING;
        }

        private boolean isAsSoonOver(int corner, int second, int soonest) {
            return town.isOpen(corner, OVER)
                && arrival(town, town.after(corner, OVER), afterStreet(corner, OVER, second)) == soonest;
        }

        /** As who sets out later is never home sooner, the seconds that are as soon lie together. */
        int lastAsSoon(Town where, int corner, int second) {
            int soonest = arrival(where, corner, second);
            if (soonest == NONE) {
                return NONE;
            }
            int good = second;
            int bad = second + town.common;
            for (int step = 0; step < 32 && bad - good > 1; step++) {
                int middle = good + (bad - good) / 2;
                if (arrival(where, corner, middle) == soonest) {
                    good = middle;
                } else {
                    bad = middle;
                }
            }
            return good;
        }

        int arrivalTurning(Town where, int second, int often) {
            town = where;
            int home = town.home();
            if (home == 0) {
                return second;
            }
            Arrays.fill(turned, NONE);
            passTurning(0, OVER, second, 0);
            passTurning(0, ON, second, 0);
            for (int corner = 1; corner < home; corner++) {
                for (int turns = 0; turns <= often; turns++) {
                    goOnTurning(corner, turns, often);
                }
            }
            int soonest = NONE;
            for (int turns = 0; turns <= often; turns++) {
                soonest = lesser(soonest, turned[turnedCell(home, OVER, turns)]);
                soonest = lesser(soonest, turned[turnedCell(home, ON, turns)]);
            }
            return soonest;
        }

        private void goOnTurning(int corner, int turns, int often) {
            for (int way = OVER; way <= ON; way++) {
                int second = turned[turnedCell(corner, way, turns)];
                if (second != NONE) {
                    passTurning(corner, way, second, turns);
                    if (turns < often) {
                        passTurning(corner, ON - way, second, turns + 1);
                    }
                }
            }
        }

        private void passTurning(int corner, int way, int second, int turns) {
            if (town.isOpen(corner, way)) {
                int cell = turnedCell(town.after(corner, way), way, turns);
                turned[cell] = lesser(turned[cell], afterStreet(corner, way, second));
            }
        }

        private static int turnedCell(int corner, int way, int turns) {
            return (corner * 2 + way) * (MOST_TURNS + 1) + turns;
        }

        void fitSightings(Town where, State what) {
            town = where;
            state = what;
            fitting = 0;
            firstFitting = 0;
            common = -1L;
            trace(0, 0, 0, 0, 1, 0);
        }

        /** bits are the ways gone, mask the corners been at, met the sightings that fitted. */
        private void trace(int corner, int second, int streets, long bits, long mask, int met) {
            if (corner == town.home()) {
                int here = state.sightingsWithin(corner, second, EVER);
                if (here != NONE && met + here == state.sightings) {
                    firstFitting = fitting == 0 ? bits : firstFitting;
                    fitting++;
                    common &= mask;
                }
                return;
            }
            for (int way = OVER; way <= ON && streets < MOST_STREETS; way++) {
                if (town.isOpen(corner, way)) {
                    int leave = second + town.waitFor(corner, way, second);
                    int here = state.sightingsWithin(corner, second, leave);
                    if (here != NONE) {
                        int next = town.after(corner, way);
                        trace(next, leave + town.setting[WALKING], streets + 1,
                            bits | (long) way << streets, mask | 1L << next, met + here);
                    }
                }
            }
        }

        long commonRows(int first, int end) {
            long rows = 0;
            for (int y = first; y < end; y++) {
                long row = common >> y * WIDEST & (1 << WIDEST) - 1;
                rows |= row << 8 * (y - first);
            }
            return rows;
        }
    }

    /** At which pace one stands least along the walk. */
    private static final class Pace {
        /** Worth more than any seconds, so that fewer stands always come first. */
        private static final int STAND = 10000;

        int stands;
        int end;
        final int[] streets = new int[MOST_STREETS];

        private final Memo costs = new Memo();
        private Town town;
        private Walk walk;
        private int allowed;
        private int solvedFor = NONE;
        private boolean can;

        void forget() {
            solvedFor = NONE;
        }

        boolean solve(Town where, Walk along, int second) {
            if (solvedFor == second) {
                return can;
            }
            solvedFor = second;
            town = where;
            walk = along;
            allowed = town.child ? 0 : town.setting[RUNS];
            costs.clear(walk.count * (allowed + 1) * town.common);
            int cost = costFrom(0, 0, modulo(second, town.common));
            can = cost != NONE;
            if (can) {
                stands = cost / STAND;
                end = second + cost % STAND;
                layStreets(modulo(second, town.common));
            }
            return can;
        }

        private int shortest() {
            return town.setting[RUNNING] > town.setting[DAWDLING] ? town.setting[WALKING] : town.setting[RUNNING];
        }

        private int longest() {
            return town.setting[RUNNING] > town.setting[DAWDLING] ? town.setting[WALKING] : town.setting[DAWDLING];
        }

        private int costFrom(int line, int runs, int second) {
            if (line >= walk.count) {
                return 0;
            }
            int cell = (line * (allowed + 1) + runs) * town.common + second;
            if (costs.holds(0, cell)) {
                return costs.number(cell);
            }
            int least = NONE;
            int longest = longest();
            for (int street = shortest(); street <= longest; street++) {
                int cost = costBy(line, runs, second, street);
                if (cost != NONE && (least == NONE || cost < least)) {
                    least = cost;
                }
            }
            costs.put(0, cell, least);
            return least;
        }

        private int costBy(int line, int runs, int second, int street) {
            int run = street < town.setting[WALKING] ? runs + 1 : runs;
            if (run > allowed || !town.isOpen(walk.corners[line], walk.ways[line])) {
                return NONE;
            }
            int wait = town.waitFor(walk.corners[line], walk.ways[line], second);
            int rest = costFrom(line + 1, run, modulo(second + wait + street, town.common));
            return rest == NONE ? NONE : rest + wait + street + (wait > 0 ? STAND : 0);
        }

        private void layStreets(int from) {
            int second = from;
            int runs = 0;
            for (int line = 0; line < walk.count; line++) {
                int cost = costFrom(line, runs, second);
                int street = shortest();
                int longest = longest();
                while (street < longest && costBy(line, runs, second, street) != cost) {
                    street++;
                }
                streets[line] = street;
                runs += street < town.setting[WALKING] ? 1 : 0;
                int wait = town.waitFor(walk.corners[line], walk.ways[line], second);
                second = modulo(second + wait + street, town.common);
            }
        }
    }

    /** When lights one behind the other should go green; the seconds of their round are the bits of a long. */
    private static final class Wave {
        private static final int MOST_LIGHTS = 4;

        int most;
        final int[] beginnings = new int[MOST_LIGHTS];

        private final int[] begins = new int[MOST_LIGHTS];
        private final long[] greens = new long[MOST_LIGHTS];
        private int lights;
        private int round;
        private int street;
        private boolean bothWays;
        private int solvedFor = NONE;

        void forget() {
            solvedFor = NONE;
        }

        void solve(Town town, int corner, int many, boolean both) {
            int question = (corner * 5 + many) * 2 + (both ? 1 : 0);
            if (solvedFor == question) {
                return;
            }
            solvedFor = question;
            lights = Math.min(many, MOST_LIGHTS);
            round = town.round[corner];
            street = town.setting[WALKING];
            bothWays = both;
            for (int light = 0; light < lights; light++) {
                greens[light] = (1L << round - town.span[corner + light * WIDEST]) - 1;
            }
            most = NONE;
            begins[0] = modulo(town.start[corner] + town.span[corner], round);
            search(1, there(0, begins[0]), bothWays ? back(0, begins[0]) : 0);
        }

        private void search(int light, long going, long coming) {
            int good = Long.bitCount(going) + Long.bitCount(coming);
            if (good <= most) {
                return;
            }
            if (light >= lights) {
                most = good;
                System.arraycopy(begins, 0, beginnings, 0, MOST_LIGHTS);
                return;
            }
            for (int begin = 0; begin < round; begin++) {
                begins[light] = begin;
                search(light + 1, going & there(light, begin), bothWays ? coming & back(light, begin) : 0);
            }
        }

        /** The seconds to set out at the first light so that this one is green as one comes. */
        private long there(int light, int begin) {
            return turn(greens[light], begin - light * street);
        }

        private long back(int light, int begin) {
            return turn(greens[light], begin - (lights - 1 - light) * street);
        }

        private long turn(long seconds, int by) {
            int shift = modulo(by, round);
            return (seconds << shift | seconds >>> round - shift) & (1L << round) - 1;
        }
    }
}
