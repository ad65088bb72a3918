import java.util.ArrayList;
import java.util.Arrays;
import java.util.HashMap;
import java.util.LinkedHashMap;
import java.util.List;
import java.util.Map;
import java.util.TreeSet;

/**
 * The document once more, as plainly as it can be written and with no care for speed: LikePlainTest asks it and
 * LaneWarps the same questions. It shares no code with LaneWarps and goes other ways where there are any.
 */
final class PlainWarps {
    static final int NONE = -1;
    static final int NOTHING = -1000000;
    private static final List<String> OPS = List.of("set", "add", "sub", "mul", "rem", "lane", "warp", "load", "store",
            "get", "put", "swap", "go", "bar", "yield", "end");
    private static final List<String> REGISTERS = List.of("a", "b", "c", "d");
    private static final List<String> OTHERS = List.of("warps", "word", "mode", "stack", "fair", "order", "age", "turns",
            "if", "a", "b", "c", "d");

    private static final class Fault extends RuntimeException {
        private static final long serialVersionUID = 1L;
        final int kind;
        final int place;

        Fault(int kind, int place) {
            this.kind = kind;
            this.place = place;
        }
    }

    private static final class Line {
        String name = "";
        String op = "";
        Integer into;
        Integer x;
        Integer y;
        String aim;
        int aimPlace;
        Integer target;
        Integer sign;
        Integer meet;
    }

    private static final class Told {
        int warps;
        int[] far = new int[64];
        boolean fair;
        boolean turns;
        List<Line> lines = new ArrayList<>();
    }

    // ---- reading

    private static final class Text {
        final String text;
        int at;

        Text(String text) {
            this.text = text;
        }

        static boolean letter(char c) {
            return "abcdefghijklmnopqrstuvwxyzABCDEFGHIJKLMNOPQRSTUVWXYZ".indexOf(c) >= 0;
        }

        static boolean digit(char c) {
            return "0123456789".indexOf(c) >= 0;
        }

        void blanks() {
            while (at < text.length() && (text.charAt(at) == ' ' || text.charAt(at) == '\n')) {
                at++;
            }
        }

        boolean done() {
            blanks();
            return at == text.length();
        }

        /** The word that stands here, without going on; empty if none does. */
        String word() {
            blanks();
            int to = at;
            while (to < text.length() && letter(text.charAt(to))) {
                to++;
            }
            if (to > at && at > 0 && digit(text.charAt(at - 1))) {
                return "";
            }
            return text.substring(at, to);
        }

        void symbol(char c) {
            blanks();
            if (at == text.length() || text.charAt(at) != c) {
                throw new Fault(1, at);
            }
            at++;
        }

        String oneOf(List<String> allowed) {
            String word = word();
            if (!allowed.contains(word)) {
                throw new Fault(1, at);
            }
            at += word.length();
            return word;
        }

        boolean digitComes() {
            blanks();
            return at < text.length() && digit(text.charAt(at));
        }

        int number(int least, int most) {
            if (!digitComes() || at > 0 && letter(text.charAt(at - 1))) {
                throw new Fault(1, at);
            }
            int from = at;
            while (at < text.length() && digit(text.charAt(at))) {
                if (at == from + 3) {
                    throw new Fault(1, at);
                }
                at++;
            }
            int n = Integer.parseInt(text.substring(from, at));
            if (n < least || n > most) {
                throw new Fault(2, from);
            }
            return n;
        }

        String name() {
            String word = word();
            if (word.isEmpty() || OPS.contains(word) || OTHERS.contains(word)) {
                throw new Fault(1, at);
            }
            if (word.length() > 6) {
                throw new Fault(1, at + 6);
            }
            at += word.length();
            return word;
        }

        int value() {
            if (digitComes()) {
                return number(0, 999);
            }
            return -1 - REGISTERS.indexOf(oneOf(REGISTERS));
        }

        int register() {
            return REGISTERS.indexOf(oneOf(REGISTERS));
        }
    }

    private static Told read(String text) {
        Text t = new Text(text);
        Told told = new Told();
        Map<String, Integer> names = new HashMap<>();
        if (t.done()) {
            throw new Fault(1, t.at);
        }
        t.oneOf(List.of("warps"));
        told.warps = t.number(1, 4);
        t.symbol(';');
        int statements = 1;
        while (!t.done()) {
            if (statements == 80) {
                throw new Fault(5, t.at);
            }
            statement(t, told, names);
            t.symbol(';');
            statements++;
        }
        if (told.lines.isEmpty()) {
            throw new Fault(1, text.length());
        }
        for (Line line : told.lines) {
            if (line.aim != null) {
                if (!names.containsKey(line.aim)) {
                    throw new Fault(3, line.aimPlace);
                }
                line.target = names.get(line.aim);
            }
        }
        for (int k = 0; k < told.lines.size(); k++) {
            if (told.lines.get(k).sign != null) {
                told.lines.get(k).meet = meet(told, k);
            }
        }
        return told;
    }

    private static void statement(Text t, Told told, Map<String, Integer> names) {
        String word = t.word();
        if (word.equals("word")) {
            t.oneOf(List.of("word"));
            int k = t.number(0, 63);
            told.far[k] = t.number(0, 999);
        } else if (word.equals("mode")) {
            t.oneOf(List.of("mode"));
            told.fair = t.oneOf(List.of("stack", "fair")).equals("fair");
        } else if (word.equals("order")) {
            t.oneOf(List.of("order"));
            told.turns = t.oneOf(List.of("age", "turns")).equals("turns");
        } else if (word.isEmpty() || OTHERS.contains(word)) {
            throw new Fault(1, t.at);
        } else {
            if (told.lines.size() == 40) {
                throw new Fault(5, t.at);
            }
            Line line = new Line();
            if (!OPS.contains(word)) {
                int place = t.at;
                line.name = t.name();
                if (names.containsKey(line.name)) {
                    throw new Fault(3, place);
                }
                t.symbol(':');
                names.put(line.name, told.lines.size());
            }
            line.op = t.oneOf(OPS);
            operands(t, line);
            told.lines.add(line);
        }
    }

    private static void operands(Text t, Line line) {
        String op = line.op;
        if (!List.of("store", "put", "go", "bar", "yield", "end").contains(op)) {
            line.into = t.register();
        }
        if (List.of("set", "add", "sub", "mul", "rem", "load", "store", "get", "put", "swap").contains(op)) {
            line.x = t.value();
        }
        if (List.of("add", "sub", "mul", "rem", "store", "put").contains(op)) {
            line.y = t.value();
        }
        if (op.equals("go")) {
            t.blanks();
            line.aimPlace = t.at;
            line.aim = t.name();
            if (!t.word().isEmpty()) {
                t.oneOf(List.of("if"));
                line.x = t.value();
                t.blanks();
                int sign = t.at < t.text.length() ? "<=>".indexOf(t.text.charAt(t.at)) : -1;
                if (sign < 0) {
                    throw new Fault(1, t.at);
                }
                t.at++;
                line.sign = sign;
                line.y = t.value();
            }
        }
    }

    // ---- where ways meet: by taking points away and looking whether the END can still be reached

    private static List<Integer> ways(Told told, int k) {
        Line line = told.lines.get(k);
        if (line.op.equals("end")) {
            return List.of(told.lines.size());
        }
        if (line.op.equals("go")) {
            return line.sign == null ? List.of(line.target) : List.of(k + 1, line.target);
        }
        return List.of(k + 1);
    }

    private static TreeSet<Integer> reached(Told told, int from, int without) {
        TreeSet<Integer> seen = new TreeSet<>();
        List<Integer> todo = new ArrayList<>(ways(told, from));
        while (!todo.isEmpty()) {
            int k = todo.remove(todo.size() - 1);
            if (k == without || !seen.add(k)) {
                continue;
            }
            if (k < told.lines.size()) {
                todo.addAll(ways(told, k));
            }
        }
        return seen;
    }

    private static int meet(Told told, int from) {
        int end = told.lines.size();
        if (!reached(told, from, -1).contains(end)) {
            return end;
        }
        List<Integer> common = new ArrayList<>();
        for (int p = 0; p <= end; p++) {
            if (!reached(told, from, p).contains(end)) {
                common.add(p);
            }
        }
        for (int p : common) {
            TreeSet<Integer> before = reached(told, from, p);
            boolean first = true;
            for (int q : common) {
                first &= q == p || !before.contains(q);
            }
            if (first) {
                return p;
            }
        }
        throw new IllegalStateException("no first point");
    }

    // ---- going

    private static final class Lane {
        int[] registers = new int[4];
        boolean lives;
        boolean waits;
        int line;
    }

    private static final class Part {
        int line;
        int meets;
        TreeSet<Integer> lanes = new TreeSet<>();
    }

    private static final class Warp {
        Lane[] lanes = new Lane[8];
        List<Part> stack = new ArrayList<>();
        int ready;
        int turn;
        int done;
    }

    private static final class World {
        Told told;
        boolean fair;
        boolean turns;
        int skew;
        int[] far = new int[64];
        int[] near = new int[32];
        Warp[] warps;
        int cycle;
        int done;
        int epochs;
        int last = NONE;
        Map<String, TreeSet<Integer>> touched = new LinkedHashMap<>();
        TreeSet<String> written = new TreeSet<>();
        TreeSet<String> raced = new TreeSet<>();
        List<int[]> kept = new ArrayList<>();

        World(Told told, boolean fair, boolean turns, int skew) {
            this.told = told;
            this.fair = fair;
            this.turns = turns;
            this.skew = skew;
            far = told.far.clone();
            warps = new Warp[told.warps];
            for (int w = 0; w < warps.length; w++) {
                warps[w] = new Warp();
                Part part = new Part();
                part.meets = told.lines.size();
                for (int k = 0; k < 8; k++) {
                    warps[w].lanes[k] = new Lane();
                    warps[w].lanes[k].lives = true;
                    part.lanes.add(k);
                }
                if (!fair) {
                    warps[w].stack.add(part);
                }
            }
        }

        World copy() {
            World c = new World(told, fair, turns, skew);
            c.far = far.clone();
            c.near = near.clone();
            for (int w = 0; w < warps.length; w++) {
                Warp from = warps[w];
                Warp to = c.warps[w];
                to.ready = from.ready;
                to.turn = from.turn;
                to.done = from.done;
                to.stack.clear();
                for (Part part : from.stack) {
                    to.stack.add(part(part.line, part.meets, part.lanes));
                }
                for (int k = 0; k < 8; k++) {
                    to.lanes[k].registers = from.lanes[k].registers.clone();
                    to.lanes[k].lives = from.lanes[k].lives;
                    to.lanes[k].waits = from.lanes[k].waits;
                    to.lanes[k].line = from.lanes[k].line;
                }
            }
            c.cycle = cycle;
            c.done = done;
            c.epochs = epochs;
            c.last = last;
            for (Map.Entry<String, TreeSet<Integer>> e : touched.entrySet()) {
                c.touched.put(e.getKey(), new TreeSet<>(e.getValue()));
            }
            c.written.addAll(written);
            c.raced.addAll(raced);
            c.kept.addAll(kept);
            return c;
        }

        static Part part(int line, int meets, Iterable<Integer> lanes) {
            Part p = new Part();
            p.line = line;
            p.meets = meets;
            for (int k : lanes) {
                p.lanes.add(k);
            }
            return p;
        }

        void only(int warp, int lane) {
            for (int w = 0; w < warps.length; w++) {
                for (int k = 0; k < 8; k++) {
                    if (w != warp || k != lane) {
                        warps[w].lanes[k].lives = false;
                        for (Part part : warps[w].stack) {
                            part.lanes.remove(k);
                        }
                    }
                }
                if (w != warp) {
                    warps[w].stack.clear();
                }
            }
        }

        TreeSet<Integer> goable(int w) {
            TreeSet<Integer> able = new TreeSet<>();
            for (int k = 0; k < 8; k++) {
                Lane lane = warps[w].lanes[k];
                boolean in = fair || !warps[w].stack.isEmpty() && top(w).lanes.contains(k);
                if (lane.lives && !lane.waits && in) {
                    able.add(k);
                }
            }
            return able;
        }

        Part top(int w) {
            return warps[w].stack.get(warps[w].stack.size() - 1);
        }

        boolean canGo(int w) {
            return !goable(w).isEmpty() && warps[w].ready <= cycle;
        }

        int chosen() {
            for (int k = 0; k < warps.length; k++) {
                int w = turns ? (last + 1 + k) % warps.length : k;
                if (canGo(w)) {
                    return w;
                }
            }
            return NONE;
        }

        int leader(int w) {
            int k = warps[w].turn;
            while (!goable(w).contains(k)) {
                k = (k + 1) % 8;
            }
            return k;
        }

        int lineOf(int w) {
            return fair ? warps[w].lanes[leader(w)].line : top(w).line;
        }

        TreeSet<Integer> together(int w) {
            TreeSet<Integer> all = goable(w);
            int line = lineOf(w);
            if (fair) {
                all.removeIf(k -> warps[w].lanes[k].line != line);
            }
            return all;
        }

        int value(int w, int k, int x) {
            return x >= 0 ? x : warps[w].lanes[k].registers[-1 - x];
        }

        int takes(int w) {
            Line line = told.lines.get(lineOf(w));
            TreeSet<Integer> lanes = together(w);
            TreeSet<Integer> asked = new TreeSet<>();
            switch (line.op) {
                case "swap":
                    return lanes.size();
                case "load":
                case "store":
                    for (int k : lanes) {
                        asked.add(Math.floorMod(value(w, k, line.x), 64) / 8);
                    }
                    return 2 + asked.size();
                case "get":
                case "put":
                    for (int k : lanes) {
                        asked.add(Math.floorMod(value(w, k, line.x), 32));
                    }
                    int most = 0;
                    for (int bank = 0; bank < 4; bank++) {
                        int count = 0;
                        for (int address : asked) {
                            count += (address + skew * (address / 4)) % 4 == bank ? 1 : 0;
                        }
                        most = Math.max(most, count);
                    }
                    return most;
                default:
                    return 1;
            }
        }

        void touch(boolean near, int address, int who, boolean writes) {
            String word = (near ? "n" : "f") + address;
            touched.computeIfAbsent(word, x -> new TreeSet<>()).add(who);
            if (writes) {
                written.add(word);
            }
        }

        void judgeRaces() {
            for (Map.Entry<String, TreeSet<Integer>> e : touched.entrySet()) {
                if (e.getValue().size() >= 2 && written.contains(e.getKey())) {
                    raced.add(e.getKey());
                }
            }
        }

        static int bound(long n) {
            return n > 9999 ? 9999 : n < -9999 ? -9999 : (int) n;
        }

        boolean cycle() {
            int w = chosen();
            if (w == NONE) {
                cycle++;
                return false;
            }
            int at = lineOf(w);
            int leader = fair ? leader(w) : NONE;
            TreeSet<Integer> lanes = together(w);
            int takes = takes(w);
            int bits = 0;
            for (int k : lanes) {
                bits |= 1 << k;
            }
            kept.add(new int[] {cycle, w, at, bits, takes});
            Line line = told.lines.get(at);
            effect(w, line, lanes);
            TreeSet<Integer> goers = new TreeSet<>();
            for (int k : lanes) {
                if (line.op.equals("go") && holds(w, k, line)) {
                    goers.add(k);
                }
            }
            if (line.op.equals("bar")) {
                for (int k : lanes) {
                    warps[w].lanes[k].waits = true;
                }
            } else if (fair) {
                for (int k : lanes) {
                    Lane lane = warps[w].lanes[k];
                    lane.line = goers.contains(k) ? line.target : line.op.equals("end") ? told.lines.size() : at + 1;
                    lane.lives = lane.line < told.lines.size();
                }
            } else {
                moveStack(w, at, line, lanes, goers);
            }
            if (fair) {
                warps[w].turn = (leader + 1) % 8;
            }
            warps[w].ready = cycle + takes;
            warps[w].done++;
            done++;
            last = w;
            judgeRaces();
            bars();
            cycle++;
            return true;
        }

        boolean holds(int w, int k, Line line) {
            if (line.sign == null) {
                return true;
            }
            return Integer.compare(value(w, k, line.x), value(w, k, line.y)) == line.sign - 1;
        }

        void effect(int w, Line line, TreeSet<Integer> lanes) {
            int[] before = new int[8];
            for (int k : lanes) {
                Lane lane = warps[w].lanes[k];
                switch (line.op) {
                    case "load":
                        before[k] = far[Math.floorMod(value(w, k, line.x), 64)];
                        break;
                    case "get":
                        before[k] = near[Math.floorMod(value(w, k, line.x), 32)];
                        break;
                    case "set":
                        before[k] = value(w, k, line.x);
                        break;
                    case "add":
                        before[k] = bound(value(w, k, line.x) + (long) value(w, k, line.y));
                        break;
                    case "sub":
                        before[k] = bound(value(w, k, line.x) - (long) value(w, k, line.y));
                        break;
                    case "mul":
                        before[k] = bound(value(w, k, line.x) * (long) value(w, k, line.y));
                        break;
                    case "rem":
                        int x = value(w, k, line.x);
                        int y = value(w, k, line.y);
                        before[k] = y <= 0 ? 0 : (x % y + y) % y;
                        break;
                    case "lane":
                        before[k] = k;
                        break;
                    case "warp":
                        before[k] = w;
                        break;
                    default:
                        before[k] = line.into == null ? 0 : lane.registers[line.into];
                }
            }
            for (int k : lanes) {
                Lane lane = warps[w].lanes[k];
                int who = w * 8 + k;
                int address = line.x == null ? 0 : Math.floorMod(value(w, k, line.x), 64);
                switch (line.op) {
                    case "load":
                        touch(false, address, who, false);
                        break;
                    case "get":
                        touch(true, address % 32, who, false);
                        break;
                    case "store":
                        touch(false, address, who, true);
                        far[address] = value(w, k, line.y);
                        break;
                    case "put":
                        touch(true, address % 32, who, true);
                        near[address % 32] = value(w, k, line.y);
                        break;
                    case "swap":
                        before[k] = near[address % 32];
                        near[address % 32] = lane.registers[line.into];
                        break;
                    default:
                        break;
                }
                if (line.into != null) {
                    lane.registers[line.into] = before[k];
                }
            }
        }

        void moveStack(int w, int at, Line line, TreeSet<Integer> lanes, TreeSet<Integer> goers) {
            int end = told.lines.size();
            List<Part> stack = warps[w].stack;
            Part top = top(w);
            if (line.op.equals("end")) {
                top.line = end;
            } else if (goers.isEmpty()) {
                top.line = at + 1;
            } else if (goers.equals(lanes)) {
                top.line = line.target;
            } else {
                TreeSet<Integer> others = new TreeSet<>(lanes);
                others.removeAll(goers);
                top.line = line.meet;
                if (at + 1 == end) {
                    for (int k : others) {
                        warps[w].lanes[k].lives = false;
                    }
                } else if (at + 1 != line.meet) {
                    stack.add(part(at + 1, line.meet, others));
                }
                if (!line.target.equals(line.meet)) {
                    stack.add(part(line.target, line.meet, goers));
                }
            }
            if (line.op.equals("yield") && stack.size() > 1) {
                Part below = stack.get(stack.size() - 2);
                if (below.meets == top.meets && below.line != below.meets) {
                    stack.set(stack.size() - 2, top);
                    stack.set(stack.size() - 1, below);
                }
            }
            settle(w);
        }

        void settle(int w) {
            List<Part> stack = warps[w].stack;
            while (!stack.isEmpty()) {
                Part top = top(w);
                if (top.line == told.lines.size()) {
                    for (int k : top.lanes) {
                        warps[w].lanes[k].lives = false;
                    }
                }
                for (Part part : stack) {
                    part.lanes.removeIf(k -> !warps[w].lanes[k].lives);
                }
                if (top.lanes.isEmpty() || top.line == top.meets && stack.size() > 1) {
                    stack.remove(stack.size() - 1);
                } else {
                    return;
                }
            }
        }

        void bars() {
            int living = 0;
            for (Warp warp : warps) {
                for (Lane lane : warp.lanes) {
                    if (lane.lives && !lane.waits) {
                        return;
                    }
                    living += lane.lives ? 1 : 0;
                }
            }
            if (living == 0) {
                return;
            }
            for (int w = 0; w < warps.length; w++) {
                boolean any = false;
                for (Lane lane : warps[w].lanes) {
                    if (lane.lives && lane.waits) {
                        any = true;
                        lane.waits = false;
                        if (fair) {
                            lane.line++;
                            lane.lives = lane.line < told.lines.size();
                        }
                    }
                }
                if (any && !fair) {
                    top(w).line++;
                    settle(w);
                }
            }
            epochs++;
            touched.clear();
            written.clear();
        }

        boolean ended() {
            for (Warp warp : warps) {
                for (Lane lane : warp.lanes) {
                    if (lane.lives) {
                        return false;
                    }
                }
            }
            return true;
        }

        boolean stuck() {
            for (int w = 0; w < warps.length; w++) {
                if (!goable(w).isEmpty()) {
                    return false;
                }
            }
            return !ended();
        }

        String all() {
            StringBuilder s = new StringBuilder();
            s.append(Arrays.toString(far)).append(Arrays.toString(near)).append(last);
            for (Warp warp : warps) {
                s.append('|').append(Math.max(0, warp.ready - cycle)).append(' ').append(warp.turn);
                for (Lane lane : warp.lanes) {
                    s.append(Arrays.toString(lane.registers)).append(lane.lives).append(lane.waits).append(lane.line);
                }
                for (Part part : warp.stack) {
                    s.append('/').append(part.line).append(' ').append(part.meets).append(part.lanes);
                }
            }
            return s.toString();
        }

        int[] course() {
            World world = copy();
            Map<String, Integer> seen = new HashMap<>();
            for (int n = 0; n <= 400; n++) {
                if (world.ended()) {
                    return new int[] {0, n, NONE};
                }
                if (world.stuck()) {
                    return new int[] {1, n, NONE};
                }
                Integer earlier = seen.put(world.all(), n);
                if (earlier != null) {
                    return new int[] {2, n, n - earlier};
                }
                world.cycle();
            }
            return new int[] {3, NONE, NONE};
        }

        int cyclesToEnd() {
            int n = 0;
            while (n < 400 && !ended()) {
                cycle();
                n++;
            }
            return ended() ? n : NONE;
        }
    }

    // ---- the face

    private final StringBuilder tape = new StringBuilder();
    private int fault;
    private int place = NONE;
    private World world;
    private final List<World> past = new ArrayList<>();
    private final int[] refused = new int[6];
    private long seed = 1;

    private int refuse(int kind) {
        refused[kind]++;
        return NONE;
    }

    int feed(int... numbers) {
        if (tape.length() + 20 > 1600) {
            return refuse(0);
        }
        for (int n : numbers) {
            tape.append((char) (n >>> 24)).append((char) (n >>> 16 & 255)).append((char) (n >>> 8 & 255))
                    .append((char) (n & 255));
        }
        return tape.length();
    }

    boolean end(int n) {
        if (n < 0 || n > tape.length()) {
            return refuse(0) == 0;
        }
        tape.setLength(n);
        return true;
    }

    int program() {
        String text = tape.toString();
        tape.setLength(0);
        try {
            Told told = read(text);
            fault = 0;
            place = NONE;
            world = new World(told, told.fair, told.turns, 0);
            past.clear();
            return told.lines.size();
        } catch (Fault f) {
            fault = f.kind;
            place = f.place;
            return refuse(1);
        }
    }

    int fault(int what) {
        return what == 0 ? fault : what == 1 ? place : NONE;
    }

    private static int count(World world, boolean waiting) {
        int n = 0;
        for (Warp warp : world.warps) {
            for (Lane lane : warp.lanes) {
                n += lane.lives && (!waiting || lane.waits) ? 1 : 0;
            }
        }
        return n;
    }

    int has(int what) {
        if (what < 0 || what > 13) {
            return NONE;
        }
        if (world == null) {
            return 0;
        }
        int[] all = {world.told.lines.size(), world.told.warps, world.cycle, world.done, count(world, false),
            count(world, true), world.raced.size(), Math.min(30, world.kept.size()), past.size(), world.epochs,
            world.fair ? 1 : 0, world.turns ? 1 : 0, world.skew, world.last == NONE ? 0 : world.last};
        return all[what];
    }

    int line(int line, int what) {
        if (world == null || line < 0 || line >= world.told.lines.size() || what < 0 || what > 6) {
            return NOTHING;
        }
        Line l = world.told.lines.get(line);
        Integer[] all = {OPS.indexOf(l.op), l.into, l.x, l.y, l.target, l.sign, l.meet};
        return all[what] == null ? NOTHING : all[what];
    }

    private boolean isLane(int warp, int lane) {
        return world != null && warp >= 0 && warp < world.warps.length && lane >= 0 && lane < 8;
    }

    int lane(int warp, int lane, int what) {
        if (!isLane(warp, lane) || what < 0 || what > 6) {
            return NOTHING;
        }
        Lane l = world.warps[warp].lanes[lane];
        if (what < 4) {
            return l.registers[what];
        }
        if (what == 4) {
            return l.lives ? 1 : 0;
        }
        if (what == 5) {
            return l.waits ? 1 : 0;
        }
        if (!l.lives) {
            return world.told.lines.size();
        }
        int line = l.line;
        for (Part part : world.warps[warp].stack) {
            line = part.lanes.contains(lane) ? part.line : line;
        }
        return line;
    }

    private static int bits(Iterable<Integer> lanes) {
        int bits = 0;
        for (int k : lanes) {
            bits |= 1 << k;
        }
        return bits;
    }

    int warp(int warp, int what) {
        if (!isLane(warp, 0) || what < 0 || what > 5) {
            return NONE;
        }
        Warp w = world.warps[warp];
        int lives = 0;
        for (int k = 0; k < 8; k++) {
            lives |= w.lanes[k].lives ? 1 << k : 0;
        }
        int[] all = {lives, w.ready, w.stack.size(), w.turn, w.done, world.canGo(warp) ? 1 : 0};
        return all[what];
    }

    int part(int warp, int k, int what) {
        if (!isLane(warp, 0) || k < 0 || k >= world.warps[warp].stack.size() || what < 0 || what > 2) {
            return NONE;
        }
        Part part = world.warps[warp].stack.get(k);
        return what == 0 ? part.line : what == 1 ? part.meets : bits(part.lanes);
    }

    private boolean isWord(boolean near, int k) {
        return world != null && k >= 0 && k < (near ? 32 : 64);
    }

    int word(boolean near, int k) {
        return !isWord(near, k) ? NOTHING : near ? world.near[k] : world.far[k];
    }

    int raced(boolean near, int k) {
        return !isWord(near, k) ? NONE : world.raced.contains((near ? "n" : "f") + k) ? 1 : 0;
    }

    int kept(int k, int what) {
        if (world == null || what < 0 || what > 4) {
            return NONE;
        }
        List<int[]> told = world.kept.subList(Math.max(0, world.kept.size() - 30), world.kept.size());
        return k < 0 || k >= told.size() ? NONE : told.get(k)[what];
    }

    int next(int what) {
        if (world == null || world.cycle >= 9999 || what < 0 || what > 3 || world.chosen() == NONE) {
            return NONE;
        }
        int w = world.chosen();
        return what == 0 ? w : what == 1 ? world.lineOf(w) : what == 2 ? bits(world.together(w)) : world.takes(w);
    }

    int goes(int what) {
        return world == null || what < 0 || what > 2 ? NONE : world.course()[what];
    }

    int later(int n, int warp, int lane, int register) {
        if (!isLane(warp, lane) || n < 0 || n > 400 || register < 0 || register > 3) {
            return NOTHING;
        }
        World then = world.copy();
        for (int k = 0; k < n; k++) {
            then.cycle();
        }
        return then.warps[warp].lanes[lane].registers[register];
    }

    private World begun(int skew) {
        return new World(world.told, world.fair, world.turns, skew);
    }

    int by(int mode, int order, int what) {
        if (world == null || mode < 0 || mode > 1 || order < 0 || order > 1 || what < 0 || what > 2) {
            return NONE;
        }
        return new World(world.told, mode == 1, order == 1, world.skew).course()[what];
    }

    int skew(int what) {
        if (world == null || what < 0 || what > 1) {
            return NONE;
        }
        int best = NONE;
        int fewest = NONE;
        for (int k = 3; k >= 0; k--) {
            int n = begun(k).cyclesToEnd();
            if (n != NONE && (fewest == NONE || n <= fewest)) {
                best = k;
                fewest = n;
            }
        }
        return what == 0 ? best : fewest;
    }

    int alone(int warp, int lane, int what) {
        if (!isLane(warp, lane) || what < 0 || what > 4) {
            return NOTHING;
        }
        World then = begun(world.skew);
        then.only(warp, lane);
        int n = then.cyclesToEnd();
        return n == NONE ? NOTHING : what == 4 ? n : then.warps[warp].lanes[lane].registers[what];
    }

    int agrees() {
        if (world == null) {
            return NONE;
        }
        int count = 0;
        for (int w = 0; w < world.warps.length; w++) {
            for (int k = 0; k < 8; k++) {
                boolean same = !world.warps[w].lanes[k].lives;
                for (int r = 0; same && r < 4; r++) {
                    same = alone(w, k, r) == world.warps[w].lanes[k].registers[r];
                }
                count += same ? 1 : 0;
            }
        }
        return count;
    }

    private int endsWith(int word, int value) {
        World then = begun(world.skew);
        then.far[word] = value;
        return then.cyclesToEnd();
    }

    int likely(int word, int cycles, int k) {
        if (world == null || word < 0 || word > 63 || cycles < 0 || cycles > 400 || k < -1) {
            return NONE;
        }
        List<Integer> values = new ArrayList<>();
        for (int value = 0; value < 16; value++) {
            if (endsWith(word, value) == cycles) {
                values.add(value);
            }
        }
        return k == NONE ? values.size() : k < values.size() ? values.get(k) : NONE;
    }

    int tells(int what) {
        if (world == null || what < 0 || what > 1) {
            return NONE;
        }
        int best = NONE;
        int most = 0;
        for (int word = 0; word < 8; word++) {
            TreeSet<Integer> unlike = new TreeSet<>();
            for (int value = 0; value < 16; value++) {
                unlike.add(endsWith(word, value));
            }
            if (unlike.size() > most) {
                best = word;
                most = unlike.size();
            }
        }
        return what == 0 ? best : most;
    }

    private void keep() {
        past.add(world.copy());
        if (past.size() > 20) {
            past.remove(0);
        }
    }

    int cycles(int n) {
        if (world == null || n < 1 || n > 400 || world.cycle + n > 9999) {
            return refuse(2);
        }
        keep();
        int lines = 0;
        for (int k = 0; k < n; k++) {
            lines += world.cycle() ? 1 : 0;
        }
        return lines;
    }

    int poke(boolean near, int k, int value) {
        if (!isWord(near, k) || value < -9999 || value > 9999) {
            refuse(3);
            return NOTHING;
        }
        keep();
        int[] memory = near ? world.near : world.far;
        int was = memory[k];
        memory[k] = value;
        return was;
    }

    boolean set(int mode, int order, int skew) {
        if (world == null || mode < 0 || mode > 1 || order < 0 || order > 1 || skew < 0 || skew > 3) {
            return refuse(3) == 0;
        }
        keep();
        world = new World(world.told, mode == 1, order == 1, skew);
        return true;
    }

    boolean begin() {
        if (world == null) {
            return refuse(3) == 0;
        }
        keep();
        world = begun(world.skew);
        return true;
    }

    private int draw(int m) {
        seed = (1103515245L * seed + 12345L) % (1L << 31);
        return (int) (seed / 64 % m);
    }

    int chance(int n) {
        if (world == null || n < 1 || n > 20) {
            return refuse(2);
        }
        keep();
        int lines = 0;
        for (int k = 0; k < n; k++) {
            int word = draw(64);
            world.far[word] = draw(16);
            int cycles = draw(8) + 1;
            for (int c = 0; c < cycles && world.cycle < 9999; c++) {
                lines += world.cycle() ? 1 : 0;
            }
        }
        return lines;
    }

    boolean undo() {
        if (past.isEmpty()) {
            return refuse(4) == 0;
        }
        world = past.remove(past.size() - 1);
        return true;
    }

    boolean seed(int newSeed) {
        if (newSeed < 0) {
            return refuse(5) == 0;
        }
        seed = newSeed;
        return true;
    }

    int status(int what) {
        return what < 0 || what > 5 ? NONE : refused[what];
    }
}
