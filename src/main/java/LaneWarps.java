import java.util.Arrays;

/** Warps of lanes that go through one program together; ../shared/DOC.md says what each call promises. */
public final class LaneWarps {
    public static final int NONE = -1;
    public static final int NOTHING = -1000000;

    private static final int REGISTERS = 4;
    private static final int LANES = 8;
    private static final int ALL_LANES = 255;
    private static final int MOST_WARPS = 4;
    private static final int MOST_LINES = 40;
    private static final int MOST_STATEMENTS = 80;
    private static final int MOST_BYTES = 1600;
    private static final int FEED_BYTES = 20;
    private static final int NAME_LETTERS = 6;
    private static final int NUMBER_DIGITS = 3;
    private static final int GREATEST_NUMBER = 999;
    private static final int FAR_WORDS = 64;
    private static final int NEAR_WORDS = 32;
    private static final int SEGMENT_WORDS = 8;
    private static final int BANKS = 4;
    private static final int BOUND = 9999;
    private static final int LAST_CYCLE = 9999;
    private static final int REACH = 400;
    private static final int MOST_TIMES = 20;
    private static final int MOST_ACTS = 20;
    private static final int MOST_KEPT = 30;
    private static final int KEPT_CELLS = 5;
    private static final int LIKELY_VALUES = 16;
    private static final int TELLING_WORDS = 8;
    private static final int REFUSALS = 6;

    // A split leaves fewer LANES in the PARTS it lays, two at most: no STACK is deeper than 1 + 2 * 7.
    private static final int MOST_PARTS = 16;

    private static final int STACK = 0;
    private static final int FAIR = 1;
    private static final int AGE = 0;
    private static final int TURNS = 1;

    private static final int ENDS = 0;
    private static final int STUCK = 1;
    private static final int SPINS = 2;
    private static final int OPEN = 3;
    private static final int COURSE_CELLS = 3;
    private static final int LAYOUTS = 16;
    // Behind the courses from BEGIN, one for each laying, stands the one from now on.
    private static final int AHEAD = LAYOUTS;
    private static final int SOLO_CELLS = 5;

    // The cells of a LINE, in the order in which line() asks for them.
    private static final int OP = 0;
    private static final int INTO = 1;
    private static final int FIRST = 2;
    private static final int SECOND = 3;
    private static final int TARGET = 4;
    private static final int SIGN = 5;
    private static final int MEET = 6;
    private static final int LINE_CELLS = 7;

    // The first sixteen OWN WORDS bear the numbers that line() tells.
    private static final String OWN_WORDS = "set add sub mul rem lane warp load store get put swap go bar yield end warps word mode stack fair order age turns if a b c d ";
    private static final int OP_SET = 0;
    private static final int OP_ADD = 1;
    private static final int OP_SUB = 2;
    private static final int OP_MUL = 3;
    private static final int OP_REM = 4;
    private static final int OP_LANE = 5;
    private static final int OP_WARP = 6;
    private static final int OP_LOAD = 7;
    private static final int OP_STORE = 8;
    private static final int OP_GET = 9;
    private static final int OP_PUT = 10;
    private static final int OP_SWAP = 11;
    private static final int OP_GO = 12;
    private static final int OP_BAR = 13;
    private static final int OP_YIELD = 14;
    private static final int OP_END = 15;
    private static final int OWN_WARPS = 16;
    private static final int OWN_WORD = 17;
    private static final int OWN_MODE = 18;
    private static final int OWN_STACK = 19;
    private static final int OWN_FAIR = 20;
    private static final int OWN_ORDER = 21;
    private static final int OWN_AGE = 22;
    private static final int OWN_TURNS = 23;
    private static final int OWN_IF = 24;
    private static final int OWN_A = 25;
    private static final int OWN_D = 28;

    private static final int TEXT_END = 0;
    private static final int WORD = 1;
    private static final int NUMBER = 2;
    private static final int SYMBOL = 3;
    private static final int MISFIT = 4;

    private static final int FAULT_TEXT = 1;
    private static final int FAULT_NUMBER = 2;
    private static final int FAULT_NAME = 3;
    private static final int FAULT_MANY = 5;

    private final byte[] tape = new byte[MOST_BYTES];
    private int bytes;
    private final Reader reader = new Reader();
    private Program current = new Program();
    private Program spare = new Program();
    private boolean told;
    private final State now = new State();
    private final State[] past = new State[MOST_ACTS];
    private int oldestAct;
    private int acts;
    private final Machine machine = new Machine();
    private final Forecast forecast = new Forecast();
    private final int[] refused = new int[REFUSALS];
    private long drawn = 1;

    public LaneWarps() {
        machine.take(current);
        forecast.take(current);
        for (int k = 0; k < MOST_ACTS; k++) {
            past[k] = new State();
        }
    }

    public int feed(int a, int b, int c, int d, int e) {
        if (bytes + FEED_BYTES > MOST_BYTES) {
            return refuse(0);
        }
        layBytes(a);
        layBytes(b);
        layBytes(c);
        layBytes(d);
        layBytes(e);
        return bytes;
    }

    public boolean end(int n) {
        if (n < 0 || n > bytes) {
            refuse(0);
            return false;
        }
        bytes = n;
        return true;
    }

    public int program() {
        boolean fine = reader.read(tape, bytes, spare);
        bytes = 0;
        if (!fine) {
            return refuse(1);
        }
        spare.findMeets();
        Program old = current;
        current = spare;
        spare = old;
        told = true;
        machine.take(current);
        forecast.take(current);
        now.lay(current.mode, current.order, 0);
        now.restart(current);
        acts = 0;
        return current.lines;
    }

    public int fault(int what) {
        if (what == 0) {
            return reader.fault;
        }
        return what == 1 ? reader.place : NONE;
    }

    public int has(int what) {
        if (what < 0 || what > 13) {
            return NONE;
        }
        if (!told) {
            return 0;
        }
        switch (what) {
            case 0: return current.lines;
            case 1: return current.warps;
            case 2: return now.cycle;
            case 3: return now.done;
            case 4: return now.living();
            case 5: return now.waiting();
            case 6: return now.racedWords();
            case 7: return Math.min(now.done, MOST_KEPT);
            case 8: return acts;
            case 9: return now.epochs;
            case 10: return now.mode;
            case 11: return now.order;
            case 12: return now.skew;
            default: return Math.max(now.last, 0);
        }
    }

    public int line(int line, int what) {
        if (!told || line < 0 || line >= current.lines || what < 0 || what >= LINE_CELLS) {
            return NOTHING;
        }
        return current.rows[line][what];
    }

    public int lane(int warp, int lane, int what) {
        if (!hasLane(warp, lane) || what < 0 || what > 6) {
            return NOTHING;
        }
        Warp of = now.warps[warp];
        int bit = 1 << lane;
        switch (what) {
            case 4: return (of.lives & bit) != 0 ? 1 : 0;
            case 5: return (of.waits & bit) != 0 ? 1 : 0;
            case 6: return (of.lives & bit) != 0 ? of.lineOf(lane, now.mode) : current.lines;
            default: return of.registers[lane * REGISTERS + what];
        }
    }

    public int warp(int warp, int what) {
        if (!hasWarp(warp)) {
            return NONE;
        }
        Warp of = now.warps[warp];
        switch (what) {
            case 0: return of.lives;
            case 1: return of.ready;
            case 2: return of.parts;
            case 3: return of.turn;
            case 4: return of.done;
            case 5: return now.canGo(warp) ? 1 : 0;
            default: return NONE;
        }
    }

    public int part(int warp, int k, int what) {
        if (!hasWarp(warp) || k < 0 || k >= now.warps[warp].parts) {
            return NONE;
        }
        Warp of = now.warps[warp];
        switch (what) {
            case 0: return of.partLine[k];
            case 1: return of.partMeets[k];
            case 2: return of.partLanes[k];
            default: return NONE;
        }
    }

    public int word(boolean near, int k) {
        if (!hasWord(near, k)) {
            return NOTHING;
        }
        return near ? now.near[k] : now.far[k];
    }

    public int raced(boolean near, int k) {
        if (!hasWord(near, k)) {
            return NONE;
        }
        return now.raced[near ? FAR_WORDS + k : k];
    }

    public int kept(int k, int what) {
        int count = Math.min(now.done, MOST_KEPT);
        if (!told || k < 0 || k >= count || what < 0 || what >= KEPT_CELLS) {
            return NONE;
        }
        return now.kept[(now.done - count + k) % MOST_KEPT * KEPT_CELLS + what];
    }

    public int next(int what) {
        if (!told || now.cycle >= LAST_CYCLE || !machine.foresee(now)) {
            return NONE;
        }
        switch (what) {
            case 0: return machine.warp;
            case 1: return machine.line;
            case 2: return machine.lanes;
            case 3: return machine.takes;
            default: return NONE;
        }
    }

    public int goes(int what) {
        if (!told || what < 0 || what >= COURSE_CELLS) {
            return NONE;
        }
        return forecast.course(now, AHEAD, what);
    }

    public int later(int n, int warp, int lane, int register) {
        if (!hasLane(warp, lane) || register < 0 || register >= REGISTERS || n < 0 || n > REACH) {
            return NOTHING;
        }
        State then = forecast.behind(now, n);
        return then.warps[warp].registers[lane * REGISTERS + register];
    }

    public int by(int mode, int order, int what) {
        if (!told || !isMode(mode) || !isOrder(order) || what < 0 || what >= COURSE_CELLS) {
            return NONE;
        }
        return forecast.course(forecast.begun(mode, order, now.skew), layout(mode, order, now.skew), what);
    }

    public int skew(int what) {
        if (!told || what < 0 || what > 1) {
            return NONE;
        }
        int best = NONE;
        int fewest = NONE;
        for (int k = 0; k < BANKS; k++) {
            int slot = layout(now.mode, now.order, k);
            State start = forecast.begun(now.mode, now.order, k);
            boolean ends = forecast.course(start, slot, 0) == ENDS;
            int count = forecast.course(start, slot, 1);
            if (ends && (best == NONE || count < fewest)) {
                best = k;
                fewest = count;
            }
        }
        return what == 0 ? best : fewest;
    }

    public int alone(int warp, int lane, int what) {
        if (!hasLane(warp, lane) || what < 0 || what >= SOLO_CELLS) {
            return NOTHING;
        }
        forecast.tryBy(now.mode, now.order, now.skew);
        forecast.tryLane(warp, lane);
        return forecast.solo(warp, lane, what);
    }

    public int agrees() {
        if (!told) {
            return NONE;
        }
        forecast.tryBy(now.mode, now.order, now.skew);
        int count = 0;
        for (int w = 0; w < current.warps; w++) {
            for (int lane = 0; lane < LANES; lane++) {
                if ((now.warps[w].lives >> lane & 1) == 0) {
                    forecast.tryLane(w, lane);
                    count += isAsAlone(w, lane) ? 1 : 0;
                }
            }
        }
        return count;
    }

    public int likely(int word, int cycles, int k) {
        if (!told || word < 0 || word >= FAR_WORDS || cycles < 0 || cycles > REACH || k < NONE) {
            return NONE;
        }
        forecast.tryBy(now.mode, now.order, now.skew);
        forecast.tryWord(word);
        int count = 0;
        for (int value = 0; value < LIKELY_VALUES; value++) {
            if (forecast.cyclesWith(word, value) == cycles) {
                if (count == k) {
                    return value;
                }
                count++;
            }
        }
        return k == NONE ? count : NONE;
    }

    public int tells(int what) {
        if (!told || what < 0 || what > 1) {
            return NONE;
        }
        forecast.tryBy(now.mode, now.order, now.skew);
        int best = NONE;
        int most = 0;
        for (int word = 0; word < TELLING_WORDS; word++) {
            forecast.tryWord(word);
            int count = forecast.unlike(word);
            if (count > most) {
                best = word;
                most = count;
            }
        }
        return what == 0 ? best : most;
    }

    public int cycles(int n) {
        if (!told || n < 1 || n > REACH || now.cycle + n > LAST_CYCLE) {
            return refuse(2);
        }
        keepForUndo();
        return run(n);
    }

    public int poke(boolean near, int k, int value) {
        if (!hasWord(near, k) || value < -BOUND || value > BOUND) {
            refuse(3);
            return NOTHING;
        }
        keepForUndo();
        int[] memory = near ? now.near : now.far;
        int was = memory[k];
        memory[k] = value;
        return was;
    }

    public boolean set(int mode, int order, int skew) {
        if (!told || !isMode(mode) || !isOrder(order) || skew < 0 || skew >= BANKS) {
            refuse(3);
            return false;
        }
        keepForUndo();
        now.lay(mode, order, skew);
        now.restart(current);
        return true;
    }

    public boolean begin() {
        if (!told) {
            refuse(3);
            return false;
        }
        keepForUndo();
        now.restart(current);
        return true;
    }

    public int chance(int n) {
        if (!told || n < 1 || n > MOST_TIMES) {
            return refuse(2);
        }
        keepForUndo();
        int count = 0;
        for (int k = 0; k < n; k++) {
            int word = draw(FAR_WORDS);
            now.far[word] = draw(LIKELY_VALUES);
            int wanted = draw(8) + 1;
            count += run(Math.min(wanted, LAST_CYCLE - now.cycle));
        }
        return count;
    }

    public boolean undo() {
        if (acts == 0) {
            refuse(4);
            return false;
        }
        acts--;
        now.copyFrom(past[(oldestAct + acts) % MOST_ACTS]);
        forecast.forgetAhead();
        return true;
    }

    public boolean seed(int seed) {
        if (seed < 0) {
            refuse(5);
            return false;
        }
        drawn = seed;
        return true;
    }

    public int status(int what) {
        return what < 0 || what >= REFUSALS ? NONE : refused[what];
    }

    private int refuse(int kind) {
        refused[kind]++;
        return NONE;
    }

    private void layBytes(int number) {
        for (int shift = 24; shift >= 0; shift -= 8) {
            tape[bytes] = (byte) (number >> shift);
            bytes++;
        }
    }

    private boolean hasWarp(int warp) {
        return told && warp >= 0 && warp < current.warps;
    }

    private boolean hasLane(int warp, int lane) {
        return hasWarp(warp) && lane >= 0 && lane < LANES;
    }

    private boolean hasWord(boolean near, int k) {
        return told && k >= 0 && k < (near ? NEAR_WORDS : FAR_WORDS);
    }

    private static int layout(int mode, int order, int skew) {
        return (mode * 2 + order) * BANKS + skew;
    }

    private static boolean isMode(int mode) {
        return mode == STACK || mode == FAIR;
    }

    private static boolean isOrder(int order) {
        return order == AGE || order == TURNS;
    }

    private boolean isAsAlone(int warp, int lane) {
        for (int r = 0; r < REGISTERS; r++) {
            if (forecast.solo(warp, lane, r) != now.warps[warp].registers[lane * REGISTERS + r]) {
                return false;
            }
        }
        return true;
    }

    /** Every ACT passes here first, so this is also where what is known of the way AHEAD ends. */
    private void keepForUndo() {
        if (acts == MOST_ACTS) {
            oldestAct = (oldestAct + 1) % MOST_ACTS;
        } else {
            acts++;
        }
        past[(oldestAct + acts - 1) % MOST_ACTS].copyFrom(now);
        forecast.forgetAhead();
    }

    private int run(int n) {
        int count = 0;
        for (int k = 0; k < n; k++) {
            if (machine.step(now)) {
                count++;
            }
        }
        return count;
    }

    private int draw(int m) {
        drawn = (1103515245L * drawn + 12345L) & 0x7fffffffL;
        return (int) (drawn / 64 % m);
    }

    /** A PROGRAM as it was told, with the points where its ways MEET. */
    private static final class Program {
        private final int[][] rows = new int[MOST_LINES][LINE_CELLS];
        private final int[] far = new int[FAR_WORDS];
        private final long[] passed = new long[MOST_LINES + 1];
        private int lines;
        private int warps;
        private int mode;
        private int order;

        void clear() {
            Arrays.fill(far, 0);
            lines = 0;
            warps = 0;
            mode = STACK;
            order = AGE;
        }

        void addLine(int op) {
            Arrays.fill(rows[lines], NOTHING);
            rows[lines][OP] = op;
            lines++;
        }

        int[] latest() {
            return rows[Math.max(lines - 1, 0)];
        }

        void findMeets() {
            findPassed();
            for (int k = 0; k < lines; k++) {
                if (rows[k][OP] == OP_GO && rows[k][SIGN] != NOTHING) {
                    rows[k][MEET] = meetOf(k);
                }
            }
        }

        /** Bit p of passed[k]: point p is on each way from k to the END, k among them; all bits if no way leads there. */
        private void findPassed() {
            long all = (1L << (lines + 1)) - 1;
            Arrays.fill(passed, all);
            passed[lines] = 1L << lines;
            boolean changed = true;
            // Each round but the last takes a bit away from one of the sets, so there are no more rounds than bits.
            for (int round = 0; changed && round <= MOST_LINES * (MOST_LINES + 1); round++) {
                changed = false;
                for (int k = lines - 1; k >= 0; k--) {
                    long through = passedBehind(k) | 1L << k;
                    if (through != passed[k]) {
                        passed[k] = through;
                        changed = true;
                    }
                }
            }
        }

        private long passedBehind(int line) {
            int[] row = rows[line];
            if (row[OP] == OP_END) {
                return passed[lines];
            }
            if (row[OP] != OP_GO) {
                return passed[line + 1];
            }
            long there = passed[row[TARGET]];
            return row[SIGN] == NOTHING ? there : there & passed[line + 1];
        }

        /** Of the points that all ways pass, the nearest is the one from which all the others are still to come. */
        private int meetOf(int line) {
            long common = passedBehind(line);
            boolean noWay = (common >> line & 1) != 0;
            for (int p = 0; !noWay && p < lines; p++) {
                if ((common >> p & 1) != 0 && passed[p] == common) {
                    return p;
                }
            }
            return lines;
        }
    }

    /** Reads a tape into a PROGRAM, or finds its first FAULT; it looks one token ahead. */
    private static final class Reader {
        private final int[] nameAt = new int[MOST_LINES];
        private final int[] nameEnd = new int[MOST_LINES];
        private final int[] aimAt = new int[MOST_LINES];
        private final int[] aimEnd = new int[MOST_LINES];
        private byte[] text;
        private int length;
        private Program into;
        private int kind;
        private int from;
        private int to;
        private int own;
        private int number;
        private int address;
        private int fault;
        private int place = NONE;

        boolean read(byte[] tape, int bytes, Program program) {
            text = tape;
            length = bytes;
            into = program;
            into.clear();
            kind = TEXT_END;
            to = 0;
            fault = 0;
            place = NONE;
            boolean fine = true;
            scan();
            for (int k = 0; fine && kind != TEXT_END && k <= MOST_STATEMENTS; k++) {
                fine = readStatement(k);
            }
            if (fine && into.lines == 0) {
                return fail(FAULT_TEXT, length);
            }
            return fine && aimAll();
        }

        private boolean fail(int newFault, int where) {
            fault = newFault;
            place = where;
            return false;
        }

        private boolean readStatement(int k) {
            if (k == MOST_STATEMENTS) {
                return fail(FAULT_MANY, from);
            }
            if ((k == 0) != (own == OWN_WARPS)) {
                return fail(FAULT_TEXT, from);
            }
            if (own <= OP_END && !openLine()) {
                return false;
            }
            String pieces = piecesOf(own);
            if (pieces.isEmpty()) {
                return fail(FAULT_TEXT, from);
            }
            scan();
            boolean fine = true;
            for (int i = 0; fine && i < pieces.length(); i++) {
                if (pieces.charAt(i) == 'I' && kind != WORD) {
                    // A go may do without its if; then only the last piece is left.
                    i = pieces.length() - 1;
                }
                fine = readPiece(pieces.charAt(i));
            }
            return fine;
        }

        /** Reads up to the OWN WORD of a LINE, which stays the token. */
        private boolean openLine() {
            if (kind != WORD) {
                return fail(FAULT_TEXT, from);
            }
            if (into.lines == MOST_LINES) {
                return fail(FAULT_MANY, from);
            }
            int nameFrom = from;
            int nameTo = own == NONE ? to : from;
            if (own == NONE) {
                if (!readName()) {
                    return false;
                }
                if (lineNamed(nameFrom, nameTo) != NONE) {
                    return fail(FAULT_NAME, nameFrom);
                }
                if (!readSign(':')) {
                    return false;
                }
            }
            if (own < 0 || own > OP_END) {
                return fail(FAULT_TEXT, from);
            }
            nameAt[into.lines] = nameFrom;
            nameEnd[into.lines] = nameTo;
            into.addLine(own);
            return true;
        }

        /** What comes behind the OWN WORD with which a STATEMENT begins, a sign for each piece: see readPiece. */
        private static String piecesOf(int own) {
            switch (own) {
                case OWN_WARPS: return "W;";
                case OWN_WORD: return "AV;";
                case OWN_MODE: return "M;";
                case OWN_ORDER: return "O;";
                case OP_SET:
                case OP_LOAD:
                case OP_GET:
                case OP_SWAP: return "RX;";
                case OP_ADD:
                case OP_SUB:
                case OP_MUL:
                case OP_REM: return "RXY;";
                case OP_LANE:
                case OP_WARP: return "R;";
                case OP_STORE:
                case OP_PUT: return "XY;";
                case OP_GO: return "GIXSY;";
                case OP_BAR:
                case OP_YIELD:
                case OP_END: return ";";
                default: return "";
            }
        }

        private boolean readPiece(char piece) {
            switch (piece) {
                case 'W':
                    into.warps = readNumber(1, MOST_WARPS);
                    break;
                case 'A':
                    address = readNumber(0, FAR_WORDS - 1);
                    break;
                case 'V':
                    into.far[Math.max(address, 0)] = readNumber(0, GREATEST_NUMBER);
                    break;
                case 'M':
                    into.mode = readOwn(OWN_STACK, OWN_FAIR) - OWN_STACK;
                    break;
                case 'O':
                    into.order = readOwn(OWN_AGE, OWN_TURNS) - OWN_AGE;
                    break;
                case 'R':
                    into.latest()[INTO] = readOwn(OWN_A, OWN_D) - OWN_A;
                    break;
                case 'X':
                case 'Y':
                    // Register k is told as -1 - k.
                    into.latest()[piece == 'X' ? FIRST : SECOND] = kind == NUMBER
                            ? readNumber(0, GREATEST_NUMBER) : OWN_A - 1 - readOwn(OWN_A, OWN_D);
                    break;
                case 'G':
                    aimAt[into.lines - 1] = from;
                    aimEnd[into.lines - 1] = to;
                    return readName();
                case 'I':
                    readOwn(OWN_IF, OWN_IF);
                    break;
                case 'S':
                    into.latest()[SIGN] = readComparison();
                    break;
                default:
                    return readSign(piece);
            }
            return fault == 0;
        }

        private int readNumber(int least, int most) {
            int read = number;
            if (kind != NUMBER) {
                fail(FAULT_TEXT, from);
            } else if (to - from > NUMBER_DIGITS) {
                fail(FAULT_TEXT, from + NUMBER_DIGITS);
            } else if (read < least || read > most) {
                fail(FAULT_NUMBER, from);
            } else {
                scan();
                return read;
            }
            return NONE;
        }

        /** The OWN WORD here, one of those from the first to the last. */
        private int readOwn(int first, int last) {
            int read = own;
            if (read < first || read > last) {
                fail(FAULT_TEXT, from);
                return NONE;
            }
            scan();
            return read;
        }

        private boolean readName() {
            if (kind != WORD || own != NONE) {
                return fail(FAULT_TEXT, from);
            }
            if (to - from > NAME_LETTERS) {
                return fail(FAULT_TEXT, from + NAME_LETTERS);
            }
            scan();
            return true;
        }

        private int readComparison() {
            int read = kind == SYMBOL ? text[from] - '<' : NONE;
            if (read < 0 || read > 2) {
                fail(FAULT_TEXT, from);
                return NONE;
            }
            scan();
            return read;
        }

        private boolean readSign(char sign) {
            if (kind != SYMBOL || text[from] != sign) {
                return fail(FAULT_TEXT, from);
            }
            scan();
            return true;
        }

        private boolean aimAll() {
            for (int k = 0; k < into.lines; k++) {
                if (into.rows[k][OP] == OP_GO) {
                    int target = lineNamed(aimAt[k], aimEnd[k]);
                    if (target == NONE) {
                        return fail(FAULT_NAME, aimAt[k]);
                    }
                    into.rows[k][TARGET] = target;
                }
            }
            return true;
        }

        private int lineNamed(int start, int end) {
            for (int k = 0; k < into.lines; k++) {
                int shift = nameAt[k] - start;
                boolean same = nameEnd[k] - nameAt[k] == end - start;
                for (int i = start; same && i < end; i++) {
                    same = text[i] == text[i + shift];
                }
                if (same) {
                    return k;
                }
            }
            return NONE;
        }

        /** Goes on to the next token; a word or a number close behind another one fits nowhere. */
        private void scan() {
            boolean behindOne = kind == WORD || kind == NUMBER;
            from = to;
            while (from < length && (text[from] == 32 || text[from] == 10)) {
                from++;
            }
            boolean glued = behindOne && from == to;
            to = from;
            own = NONE;
            if (from >= length) {
                kind = TEXT_END;
            } else if (isLetter(text[from])) {
                scanWord();
                kind = glued ? MISFIT : WORD;
                own = glued ? NONE : ownWord();
            } else if (isDigit(text[from])) {
                scanNumber();
                kind = glued ? MISFIT : NUMBER;
            } else {
                to = from + 1;
                kind = SYMBOL;
            }
        }

        private void scanWord() {
            while (to < length && isLetter(text[to])) {
                to++;
            }
        }

        private void scanNumber() {
            number = 0;
            while (to < length && isDigit(text[to])) {
                if (to - from < NUMBER_DIGITS) {
                    number = number * 10 + (text[to] - '0');
                }
                to++;
            }
        }

        private static boolean isLetter(int sign) {
            return sign >= 'a' && sign <= 'z' || sign >= 'A' && sign <= 'Z';
        }

        private static boolean isDigit(int sign) {
            return sign >= '0' && sign <= '9';
        }

        private int ownWord() {
            int index = 0;
            int k = from;
            boolean same = true;
            for (int i = 0; i < OWN_WORDS.length(); i++) {
                char sign = OWN_WORDS.charAt(i);
                if (sign == ' ') {
                    if (same && k == to) {
                        return index;
                    }
                    index++;
                    k = from;
                    same = true;
                } else if (same && k < to && text[k] == sign) {
                    k++;
                } else {
                    same = false;
                }
            }
            return NONE;
        }
    }

    /** A WARP: its LANES, by stack its PARTS, by fair their LINES and its TURN. */
    private static final class Warp {
        private final int[] registers = new int[LANES * REGISTERS];
        private final int[] lines = new int[LANES];
        private final int[] partLine = new int[MOST_PARTS];
        private final int[] partMeets = new int[MOST_PARTS];
        private final int[] partLanes = new int[MOST_PARTS];
        private int parts;
        private int lives;
        private int waits;
        private int ready;
        private int done;
        private int turn;

        void restart(int lanes, int mode, int end) {
            Arrays.fill(registers, 0);
            Arrays.fill(lines, 0);
            lives = lanes;
            waits = 0;
            ready = 0;
            done = 0;
            turn = 0;
            parts = 0;
            if (mode == STACK && lanes != 0) {
                layPart(0, end, lanes);
            }
        }

        void copyFrom(Warp other) {
            System.arraycopy(other.registers, 0, registers, 0, registers.length);
            System.arraycopy(other.lines, 0, lines, 0, LANES);
            System.arraycopy(other.partLine, 0, partLine, 0, MOST_PARTS);
            System.arraycopy(other.partMeets, 0, partMeets, 0, MOST_PARTS);
            System.arraycopy(other.partLanes, 0, partLanes, 0, MOST_PARTS);
            parts = other.parts;
            lives = other.lives;
            waits = other.waits;
            ready = other.ready;
            done = other.done;
            turn = other.turn;
        }

        boolean isLike(Warp other) {
            if (parts != other.parts || lives != other.lives || waits != other.waits || turn != other.turn) {
                return false;
            }
            for (int p = 0; p < parts; p++) {
                if (partLine[p] != other.partLine[p] || partMeets[p] != other.partMeets[p]
                        || partLanes[p] != other.partLanes[p]) {
                    return false;
                }
            }
            return areLike(lines, other.lines) && areLike(registers, other.registers);
        }

        int lineOf(int lane, int mode) {
            if (mode == FAIR) {
                return lines[lane];
            }
            int line = 0;
            for (int p = 0; p < parts; p++) {
                if ((partLanes[p] >> lane & 1) != 0) {
                    line = partLine[p];
                }
            }
            return line;
        }

        int movable(int mode) {
            int willing = lives & ~waits;
            if (mode == STACK) {
                return parts == 0 ? 0 : partLanes[parts - 1] & willing;
            }
            return willing;
        }

        private void layPart(int line, int meets, int lanes) {
            if (parts < MOST_PARTS) {
                partLine[parts] = line;
                partMeets[parts] = meets;
                partLanes[parts] = lanes;
                parts++;
            }
        }

        void moveTop(int line) {
            if (parts > 0) {
                partLine[parts - 1] = line;
            }
        }

        void splitTop(int behind, int target, int meet, int goers, int end) {
            if (parts == 0) {
                return;
            }
            int stayers = partLanes[parts - 1] & ~goers;
            partLine[parts - 1] = meet;
            if (behind == end) {
                lives &= ~stayers;
            } else if (behind != meet) {
                layPart(behind, meet, stayers);
            }
            if (target != meet) {
                layPart(target, meet, goers);
            }
        }

        void yieldTop() {
            int top = parts - 1;
            int below = parts - 2;
            if (below < 0 || partMeets[below] != partMeets[top] || partLine[below] == partMeets[below]) {
                return;
            }
            int line = partLine[top];
            int lanes = partLanes[top];
            partLine[top] = partLine[below];
            partLanes[top] = partLanes[below];
            partLine[below] = line;
            partLanes[below] = lanes;
        }

        /** A PART that has yielded at its last LINE is at the END before it is on top, so each new top is looked at. */
        void settle(int end) {
            boolean goes = parts > 0;
            for (int k = MOST_PARTS; goes && k > 0; k--) {
                int top = parts - 1;
                if (partLine[top] == end) {
                    lives &= ~partLanes[top];
                }
                for (int p = 0; p < parts; p++) {
                    partLanes[p] &= lives;
                }
                goes = partLanes[top] == 0 || partLine[top] == partMeets[top] && top > 0;
                if (goes) {
                    parts--;
                }
                goes = goes && parts > 0;
            }
        }

        void moveLane(int lane, int line, int end) {
            lines[lane] = line;
            if (line == end) {
                lives &= ~(1 << lane);
            }
        }

        void passBar(int mode, int end) {
            int waiters = waits;
            waits = 0;
            if (waiters == 0) {
                return;
            }
            if (mode == STACK && parts > 0) {
                moveTop(partLine[parts - 1] + 1);
                settle(end);
                return;
            }
            for (int lane = 0; lane < LANES; lane++) {
                if ((waiters >> lane & 1) != 0) {
                    moveLane(lane, lines[lane] + 1, end);
                }
            }
        }
    }

    /** All that an ACT can change, so that undoing one is copying one. */
    private static final class State {
        private final Warp[] warps = new Warp[MOST_WARPS];
        private final int[] far = new int[FAR_WORDS];
        private final int[] near = new int[NEAR_WORDS];
        // Of these three the cells of the near words stand behind those of the far ones.
        private final int[] touched = new int[FAR_WORDS + NEAR_WORDS];
        private final int[] wrote = new int[FAR_WORDS + NEAR_WORDS];
        private final int[] raced = new int[FAR_WORDS + NEAR_WORDS];
        private final int[] kept = new int[MOST_KEPT * KEPT_CELLS];
        private int used;
        private int mode;
        private int order;
        private int skew;
        private int cycle;
        private int done;
        private int epochs;
        private int last = NONE;

        State() {
            for (int w = 0; w < MOST_WARPS; w++) {
                warps[w] = new Warp();
            }
        }

        void lay(int newMode, int newOrder, int newSkew) {
            mode = newMode;
            order = newOrder;
            skew = newSkew;
        }

        void restart(Program program) {
            used = program.warps;
            System.arraycopy(program.far, 0, far, 0, FAR_WORDS);
            Arrays.fill(near, 0);
            Arrays.fill(touched, 0);
            Arrays.fill(wrote, 0);
            Arrays.fill(raced, 0);
            cycle = 0;
            done = 0;
            epochs = 0;
            last = NONE;
            for (int w = 0; w < MOST_WARPS; w++) {
                warps[w].restart(w < used ? ALL_LANES : 0, mode, program.lines);
            }
        }

        void leaveAlone(int warp, int lane, int end) {
            for (int w = 0; w < used; w++) {
                warps[w].restart(w == warp ? 1 << lane : 0, mode, end);
            }
        }

        void copyFrom(State other) {
            used = other.used;
            lay(other.mode, other.order, other.skew);
            cycle = other.cycle;
            done = other.done;
            epochs = other.epochs;
            last = other.last;
            System.arraycopy(other.far, 0, far, 0, FAR_WORDS);
            System.arraycopy(other.near, 0, near, 0, NEAR_WORDS);
            System.arraycopy(other.touched, 0, touched, 0, touched.length);
            System.arraycopy(other.wrote, 0, wrote, 0, wrote.length);
            System.arraycopy(other.raced, 0, raced, 0, raced.length);
            System.arraycopy(other.kept, 0, kept, 0, kept.length);
            for (int w = 0; w < MOST_WARPS; w++) {
                warps[w].copyFrom(other.warps[w]);
            }
        }

        /** Like for SPINS: what has been counted and kept does not matter, only what the way AHEAD hangs on. */
        boolean isLike(State other) {
            if (last != other.last) {
                return false;
            }
            for (int w = 0; w < used; w++) {
                if (restOfReady(w) != other.restOfReady(w) || !warps[w].isLike(other.warps[w])) {
                    return false;
                }
            }
            return areLike(near, other.near) && areLike(far, other.far);
        }

        private int restOfReady(int warp) {
            return Math.max(warps[warp].ready - cycle, 0);
        }

        boolean canGo(int warp) {
            return warps[warp].ready <= cycle && warps[warp].movable(mode) != 0;
        }

        boolean hasEnded() {
            int lives = 0;
            for (int w = 0; w < used; w++) {
                lives |= warps[w].lives;
            }
            return lives == 0;
        }

        boolean hasNoneToGo() {
            int movable = 0;
            for (int w = 0; w < used; w++) {
                movable |= warps[w].movable(mode);
            }
            return movable == 0;
        }

        int living() {
            int count = 0;
            for (int w = 0; w < used; w++) {
                count += Integer.bitCount(warps[w].lives);
            }
            return count;
        }

        int waiting() {
            int count = 0;
            for (int w = 0; w < used; w++) {
                count += Integer.bitCount(warps[w].waits);
            }
            return count;
        }

        int racedWords() {
            int count = 0;
            for (int k = 0; k < raced.length; k++) {
                count += raced[k];
            }
            return count;
        }

        void touch(int cell, int who, boolean writes) {
            touched[cell] |= 1 << who;
            if (writes) {
                wrote[cell] = 1;
            }
            if (wrote[cell] != 0 && Integer.bitCount(touched[cell]) > 1) {
                raced[cell] = 1;
            }
        }

        void passBarIfAllWait(int end) {
            int lives = 0;
            int moving = 0;
            for (int w = 0; w < used; w++) {
                lives |= warps[w].lives;
                moving |= warps[w].lives & ~warps[w].waits;
            }
            if (lives == 0 || moving != 0) {
                return;
            }
            for (int w = 0; w < used; w++) {
                warps[w].passBar(mode, end);
            }
            epochs++;
            Arrays.fill(touched, 0);
            Arrays.fill(wrote, 0);
        }
    }

    /** Does the LINES of a PROGRAM, a CYCLE at a time, on whatever state it is given. */
    private static final class Machine {
        private final int[] addresses = new int[LANES];
        private final int[] inBank = new int[BANKS];
        private Program program;
        private State state;
        private Warp mover;
        private int[] row;
        private int warp;
        private int line;
        private int lanes;
        private int leader;
        private int takes;
        private long loaded;

        void take(Program newProgram) {
            program = newProgram;
        }

        boolean step(State of) {
            boolean went = foresee(of);
            if (went) {
                keepLine();
                mover.ready = of.cycle + takes;
                work();
                if (of.mode == STACK) {
                    moveTop();
                } else {
                    moveEach();
                }
                of.passBarIfAllWait(program.lines);
            }
            of.cycle++;
            return went;
        }

        /** Finds what goes in this CYCLE, and changes nothing of the state. */
        boolean foresee(State of) {
            state = of;
            if (!pickWarp()) {
                return false;
            }
            pickLanes();
            if (line < 0 || line >= program.lines) {
                return false;
            }
            row = program.rows[line];
            measure();
            return true;
        }

        private boolean pickWarp() {
            int from = state.order == TURNS ? state.last + 1 : 0;
            for (int k = 0; k < state.used; k++) {
                int w = (from + k) % state.used;
                if (state.canGo(w)) {
                    warp = w;
                    mover = state.warps[w];
                    return true;
                }
            }
            return false;
        }

        private void pickLanes() {
            int movable = mover.movable(state.mode);
            if (state.mode == STACK) {
                lanes = movable;
                line = mover.partLine[Math.max(mover.parts - 1, 0)];
                return;
            }
            leader = mover.turn;
            for (int k = 0; k < LANES && (movable >> leader & 1) == 0; k++) {
                leader = (leader + 1) % LANES;
            }
            line = mover.lines[leader];
            lanes = 0;
            for (int lane = 0; lane < LANES; lane++) {
                if ((movable >> lane & 1) != 0 && mover.lines[lane] == line) {
                    lanes |= 1 << lane;
                }
            }
        }

        private boolean goesNow(int lane) {
            return (lanes >> lane & 1) != 0;
        }

        private int valueOf(int x, int lane) {
            return x >= 0 ? x : mover.registers[lane * REGISTERS + (-1 - x & 3)];
        }

        private void measure() {
            int op = row[OP];
            takes = 1;
            if (op < OP_LOAD || op > OP_SWAP) {
                return;
            }
            boolean near = op >= OP_GET;
            for (int lane = 0; lane < LANES; lane++) {
                if (goesNow(lane)) {
                    addresses[lane] = Math.floorMod(valueOf(row[FIRST], lane), near ? NEAR_WORDS : FAR_WORDS);
                }
            }
            if (op == OP_SWAP) {
                takes = Integer.bitCount(lanes);
            } else {
                takes = near ? mostInOneBank() : 2 + segments();
            }
        }

        private int segments() {
            int seen = 0;
            for (int lane = 0; lane < LANES; lane++) {
                if (goesNow(lane)) {
                    seen |= 1 << addresses[lane] / SEGMENT_WORDS;
                }
            }
            return Integer.bitCount(seen);
        }

        private int mostInOneBank() {
            Arrays.fill(inBank, 0);
            int seen = 0;
            int most = 0;
            for (int lane = 0; lane < LANES; lane++) {
                int address = addresses[lane];
                if (goesNow(lane) && (seen >> address & 1) == 0) {
                    seen |= 1 << address;
                    int bank = (address + state.skew * (address / BANKS)) % BANKS;
                    inBank[bank]++;
                    most = Math.max(most, inBank[bank]);
                }
            }
            return most;
        }

        private void keepLine() {
            int cell = state.done % MOST_KEPT * KEPT_CELLS;
            state.kept[cell] = state.cycle;
            state.kept[cell + 1] = warp;
            state.kept[cell + 2] = line;
            state.kept[cell + 3] = lanes;
            state.kept[cell + 4] = takes;
            state.done++;
            mover.done++;
            state.last = warp;
        }

        private void work() {
            int op = row[OP];
            if (op > OP_SWAP) {
                return;
            }
            for (int lane = 0; lane < LANES; lane++) {
                if (goesNow(lane)) {
                    if (op < OP_LOAD) {
                        mover.registers[lane * REGISTERS + row[INTO]] = bounded(result(op, lane));
                    } else {
                        ask(op, lane);
                    }
                }
            }
        }

        private int result(int op, int lane) {
            int x = valueOf(row[FIRST], lane);
            int y = valueOf(row[SECOND], lane);
            switch (op) {
                case OP_SET: return x;
                case OP_ADD: return x + y;
                case OP_SUB: return x - y;
                case OP_MUL: return x * y;
                case OP_REM: return y <= 0 ? 0 : Math.floorMod(x, y);
                case OP_LANE: return lane;
                default: return warp;
            }
        }

        private static int bounded(int number) {
            return Math.max(-BOUND, Math.min(BOUND, number));
        }

        /** LANES only read, or only write, in one LINE, so one after the other is as good as reading first; the last write stays. */
        private void ask(int op, int lane) {
            int address = addresses[lane];
            int into = lane * REGISTERS + Math.max(row[INTO], 0);
            boolean near = op >= OP_GET;
            int[] memory = near ? state.near : state.far;
            if (op == OP_SWAP) {
                int word = memory[address];
                memory[address] = mover.registers[into];
                mover.registers[into] = word;
                return;
            }
            boolean writes = op == OP_STORE || op == OP_PUT;
            if (writes) {
                memory[address] = valueOf(row[SECOND], lane);
            } else {
                mover.registers[into] = memory[address];
            }
            if (op == OP_LOAD) {
                loaded |= 1L << address;
            }
            state.touch(near ? FAR_WORDS + address : address, warp * LANES + lane, writes);
        }

        private int goers() {
            if (row[OP] != OP_GO) {
                return 0;
            }
            int goers = 0;
            for (int lane = 0; lane < LANES; lane++) {
                if (goesNow(lane) && holds(lane)) {
                    goers |= 1 << lane;
                }
            }
            return goers;
        }

        private boolean holds(int lane) {
            int x = valueOf(row[FIRST], lane);
            int y = valueOf(row[SECOND], lane);
            switch (row[SIGN]) {
                case 0: return x < y;
                case 1: return x == y;
                case 2: return x > y;
                default: return true;
            }
        }

        private int lineBehind() {
            return row[OP] == OP_END ? program.lines : line + 1;
        }

        private void moveTop() {
            if (row[OP] == OP_BAR) {
                mover.waits |= lanes;
                return;
            }
            int goers = goers();
            if (goers == 0) {
                mover.moveTop(lineBehind());
            } else if (goers == lanes) {
                mover.moveTop(row[TARGET]);
            } else {
                mover.splitTop(line + 1, row[TARGET], row[MEET], goers, program.lines);
            }
            if (row[OP] == OP_YIELD) {
                mover.yieldTop();
            }
            mover.settle(program.lines);
        }

        private void moveEach() {
            mover.turn = (leader + 1) % LANES;
            if (row[OP] == OP_BAR) {
                mover.waits |= lanes;
                return;
            }
            int goers = goers();
            for (int lane = 0; lane < LANES; lane++) {
                if (goesNow(lane)) {
                    boolean goes = (goers >> lane & 1) != 0;
                    mover.moveLane(lane, goes ? row[TARGET] : lineBehind(), program.lines);
                }
            }
        }
    }

    /** Looks ahead on states of its own; what hangs on the PROGRAM and its laying alone is found once and kept. */
    private static final class Forecast {
        private final Machine machine = new Machine();
        private final State origin = new State();
        private final State scout = new State();
        private final State trail = new State();
        private final int[] courses = new int[(LAYOUTS + 1) * COURSE_CELLS];
        private int coursesKnown;
        private final int[] ends = new int[FAR_WORDS * LIKELY_VALUES];
        private long endsKnown;
        private final int[] solos = new int[MOST_WARPS * LANES * SOLO_CELLS];
        private int solosKnown;
        private Program program;
        private int mode;
        private int order;
        private int skew;

        void take(Program newProgram) {
            program = newProgram;
            machine.take(newProgram);
            coursesKnown = 0;
            endsKnown = 0;
            solosKnown = 0;
        }

        void forgetAhead() {
            coursesKnown &= ~(1 << AHEAD);
        }

        /** By which MODE, ORDER, SKEW words and LANES ALONE are tried from now on. */
        void tryBy(int newMode, int newOrder, int newSkew) {
            if (mode != newMode || order != newOrder || skew != newSkew) {
                mode = newMode;
                order = newOrder;
                skew = newSkew;
                endsKnown = 0;
                solosKnown = 0;
            }
        }

        State behind(State start, int n) {
            scout.copyFrom(start);
            for (int k = 0; k < n; k++) {
                machine.step(scout);
            }
            return scout;
        }

        State begun(int byMode, int byOrder, int bySkew) {
            origin.lay(byMode, byOrder, bySkew);
            origin.restart(program);
            return origin;
        }

        /** What becomes of it from a start on: how it goes, behind how many CYCLES, the round. */
        int course(State start, int slot, int what) {
            int cell = slot * COURSE_CELLS;
            if ((coursesKnown >> slot & 1) == 0) {
                int when = cyclesToRest(start);
                int round = NONE;
                courses[cell] = scout.hasEnded() ? ENDS : STUCK;
                if (when == NONE) {
                    round = roundFromHere();
                    when = firstAgain(start, round);
                    courses[cell] = when == NONE ? OPEN : SPINS;
                }
                courses[cell + 1] = when;
                courses[cell + 2] = when == NONE ? NONE : round;
                coursesKnown |= 1 << slot;
            }
            return courses[cell + what];
        }

        /** Behind how many CYCLES it ENDS or is STUCK; NONE if not within reach: then the scout is as far as that. */
        private int cyclesToRest(State start) {
            scout.copyFrom(start);
            for (int n = 0; n < REACH; n++) {
                if (scout.hasNoneToGo()) {
                    return n;
                }
                machine.step(scout);
            }
            return scout.hasNoneToGo() ? REACH : NONE;
        }

        /** What SPINS within reach has been in its round by where the scout is now, so it comes by here again. */
        private int roundFromHere() {
            trail.copyFrom(scout);
            for (int n = 1; n <= REACH; n++) {
                machine.step(scout);
                if (scout.isLike(trail)) {
                    return n;
                }
            }
            return NONE;
        }

        /** When it is first as it was a round ago; NONE if not within reach. */
        private int firstAgain(State start, int round) {
            if (round == NONE) {
                return NONE;
            }
            trail.copyFrom(start);
            scout.copyFrom(start);
            for (int n = 0; n < round; n++) {
                machine.step(scout);
            }
            for (int n = round; n <= REACH; n++) {
                if (scout.isLike(trail)) {
                    return n;
                }
                machine.step(scout);
                machine.step(trail);
            }
            return NONE;
        }

        /** A word that no LANE loads can't matter, so its other values need no run of their own. */
        void tryWord(int word) {
            if ((endsKnown >> word & 1) != 0) {
                return;
            }
            boolean matters = true;
            for (int value = 0; value < LIKELY_VALUES; value++) {
                int cell = word * LIKELY_VALUES + value;
                if (matters) {
                    begun(mode, order, skew).far[word] = value;
                    machine.loaded = 0;
                    int count = cyclesToRest(origin);
                    ends[cell] = scout.hasEnded() ? count : NONE;
                    matters = (machine.loaded >> word & 1) != 0;
                } else {
                    ends[cell] = ends[cell - 1];
                }
            }
            endsKnown |= 1L << word;
        }

        int cyclesWith(int word, int value) {
            return ends[word * LIKELY_VALUES + value];
        }

        int unlike(int word) {
            int count = 0;
            for (int value = 0; value < LIKELY_VALUES; value++) {
                boolean fresh = true;
                for (int earlier = 0; fresh && earlier < value; earlier++) {
                    fresh = cyclesWith(word, earlier) != cyclesWith(word, value);
                }
                if (fresh) {
                    count++;
                }
            }
            return count;
        }

        void tryLane(int warp, int lane) {
            int who = warp * LANES + lane;
            if ((solosKnown >> who & 1) != 0) {
                return;
            }
            begun(mode, order, skew).leaveAlone(warp, lane, program.lines);
            int count = cyclesToRest(origin);
            boolean ended = scout.hasEnded();
            int cell = who * SOLO_CELLS;
            for (int r = 0; r < REGISTERS; r++) {
                solos[cell + r] = ended ? scout.warps[warp].registers[lane * REGISTERS + r] : NOTHING;
            }
            solos[cell + REGISTERS] = ended ? count : NOTHING;
            solosKnown |= 1 << who;
        }

        int solo(int warp, int lane, int what) {
            return solos[(warp * LANES + lane) * SOLO_CELLS + what];
        }
    }

    private static boolean areLike(int[] some, int[] others) {
        for (int k = 0; k < some.length && k < others.length; k++) {
            if (some[k] != others[k]) {
                return false;
            }
        }
        return true;
    }
}
