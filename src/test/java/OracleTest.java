import java.util.ArrayDeque;
import java.util.ArrayList;
import java.util.Arrays;
import java.util.List;
import java.util.Random;

/**
 * Runs of chance calls on a CalmLines and on a second program that goes through
 * each tick by itself, tries each mark, and keeps rows as lists: all answers
 * must be alike.
 */
public final class OracleTest {
    private static final int BIG = Integer.MAX_VALUE;

    /** A call by name, so that a run that goes wrong can be printed. */
    private record Call(String name, int a, int b, int c, int d) {
        long on(CalmLines x) {
            return switch (name) {
                case "line" -> x.line(a, b);
                case "rule" -> x.rule(a, b);
                case "faded" -> x.faded(a, b);
                case "change" -> x.change(a, b == 1);
                case "echo" -> x.echo(a);
                case "tick" -> x.tick(a);
                case "about" -> x.about(a, b);
                case "longest" -> x.longest();
                case "event" -> x.event(a, b);
                case "again" -> x.again(a, b, c, d);
                case "mark" -> x.mark(a, b);
                case "marks" -> x.marks(a);
                case "way" -> x.way(a, b, c == 1);
                case "bind" -> x.bind(a, b, c);
                case "flood" -> x.flood(a == 1);
                case "own" -> x.own(a, b);
                case "echoes" -> x.echoes(a);
                case "count" -> x.count(a);
                default -> x.digest();
            };
        }

        long on(Plain x) {
            return switch (name) {
                case "line" -> x.line(a, b);
                case "rule" -> x.rule(a, b);
                case "faded" -> x.faded(a, b);
                case "change" -> x.change(a, b == 1);
                case "echo" -> x.echo(a);
                case "tick" -> x.tick(a);
                case "about" -> x.about(a, b);
                case "longest" -> x.longest();
                case "event" -> x.event(a, b);
                case "again" -> x.again(a, b, c, d);
                case "mark" -> x.mark(a, b);
                case "marks" -> x.marks(a);
                case "way" -> x.way(a, b, c == 1);
                case "bind" -> x.bind(a, b, c);
                case "flood" -> x.flood(a == 1);
                case "own" -> x.own(a, b);
                case "echoes" -> x.echoes(a);
                case "count" -> x.count(a);
                default -> x.digest();
            };
        }
    }

    /** How likely the calls of a run are, so that some runs are all lines, some all net. */
    private enum Mood { MIXED, LINES, BUSY, NET, WRONG }

    public static void main(String[] args) {
        int wrong = 0;
        for (int seed = 0; seed < 600 && wrong < 5; seed++) {
            wrong += run(seed) ? 0 : 1;
        }
        wrong += largestFlood() ? 0 : 1;
        System.out.println(wrong == 0 ? "all chance runs agree" : wrong + " chance runs differ");
        if (wrong != 0) {
            System.exit(1);
        }
    }

    private static boolean run(int seed) {
        Random chance = new Random(seed);
        Mood mood = Mood.values()[seed % Mood.values().length];
        int calls = seed % 7 == 0 ? 511 : 40 + chance.nextInt(200);
        CalmLines program = new CalmLines();
        Plain oracle = new Plain();
        List<Call> done = new ArrayList<>();
        for (int i = 0; i <= calls; i++) {
            Call call = i == calls ? new Call("digest", 0, 0, 0, 0) : next(chance, mood, oracle);
            done.add(call);
            long got = call.on(program);
            long want = call.on(oracle);
            if (got != want) {
                System.out.println("seed " + seed + ", call " + i + " " + call + " answered " + got + ", due is " + want);
                if (i < 40) {
                    System.out.println("  behind " + done);
                }
                return false;
            }
        }
        return true;
    }

    /** The run with the most letters in one flood that a search found; steps 10 and 11 are floods. */
    private static boolean largestFlood() {
        int[][] pairs = {{0, 1}, {0, 2}, {0, 3}, {0, 4}, {1, 2}, {1, 3}, {1, 4}, {2, 3}, {2, 4}, {3, 4}};
        int[] steps = {10, 4, 11, 10, 1, 1, 9, 1, 6, 1, 3, 10, 10, 0, 10, 10, 2, 3, 5, 2, 11, 0, 10, 3, 2, 8, 0, 4, 9,
            10, 11, 3, 5, 5, 0, 3, 9, 0, 1, 7, 10, 4, 3, 4, 3, 3, 3, 2, 4, 2, 11};
        CalmLines program = new CalmLines();
        Plain oracle = new Plain();
        for (int step : steps) {
            boolean flood = step >= 10;
            int a = flood ? step - 10 : pairs[step][0];
            int b = flood ? 0 : pairs[step][1];
            int there = !flood && oracle.ways[a][b] ? 0 : 1;
            Call call = new Call(flood ? "flood" : "way", a, b, there, 0);
            long got = call.on(program);
            long want = call.on(oracle);
            if (got != want || program.digest() != oracle.digest()) {
                System.out.println("the largest flood: " + call + " answered " + got + ", due is " + want);
                return false;
            }
        }
        return oracle.count(5) > 224;
    }

    private static Call next(Random chance, Mood mood, Plain oracle) {
        if (mood == Mood.WRONG && chance.nextInt(3) == 0) {
            return wrongCall(chance);
        }
        if (oracle.lines.size() < 2 || chance.nextInt(25) == 0) {
            return call("line", chance.nextInt(3), chance.nextInt(2));
        }
        int n = oracle.lines.size();
        int line = mood == Mood.BUSY ? chance.nextInt(Math.min(3, n)) : chance.nextInt(n);
        int roll = chance.nextInt(100);
        if (mood == Mood.NET) {
            if (roll < 30) {
                return new Call("way", chance.nextInt(5), chance.nextInt(5), chance.nextInt(4) == 0 ? 0 : 1, 0);
            }
            if (roll < 50) {
                return call("flood", chance.nextInt(2), 0);
            }
            if (roll < 60) {
                return new Call("bind", line, 1 + chance.nextInt(4), chance.nextInt(5), 0);
            }
            if (roll < 65) {
                return call("own", chance.nextInt(5), chance.nextInt(5));
            }
            if (roll < 70) {
                return call("echoes", chance.nextInt(5), 0);
            }
        }
        if (mood == Mood.BUSY && roll < 70) {
            return roll < 45 ? call("change", line, oracle.lines.get(line).up ? 0 : 1) : call("echo", line, 0);
        }
        return anyCall(chance, oracle, line);
    }

    private static Call anyCall(Random chance, Plain oracle, int line) {
        switch (chance.nextInt(20)) {
            case 0: case 1: case 2: case 3:
                return call("change", line, oracle.lines.get(line).up ? 0 : 1);
            case 4: case 5:
                return call("echo", line, 0);
            case 6: case 7:
                return call("tick", 1 + chance.nextInt(chance.nextBoolean() ? 5 : 60), 0);
            case 8: case 9:
                return call("about", line, chance.nextInt(9));
            case 10:
                return chance.nextBoolean() ? ruleCall(chance) : call("longest", 0, 0);
            case 11: {
                int shut = 1 + chance.nextInt(chance.nextBoolean() ? 4000 : 20000);
                return new Call("again", line, shut, 1 + chance.nextInt(shut), chance.nextInt(2));
            }
            case 12:
                return call("mark", line, chance.nextInt(3));
            case 13:
                return chance.nextInt(3) == 0 ? call("marks", chance.nextInt(12), 0) : call("count", chance.nextInt(6), 0);
            case 14:
                return new Call("way", chance.nextInt(5), chance.nextInt(5), chance.nextInt(3) == 0 ? 0 : 1, 0);
            case 15:
                return new Call("bind", line, 1 + chance.nextInt(4), chance.nextInt(5), 0);
            case 16:
                return call("flood", chance.nextInt(2), 0);
            case 17:
                return call("event", chance.nextInt(1 + oracle.log.size()), chance.nextInt(3));
            case 18:
                return call("faded", chance.nextInt(100001), chance.nextInt(chance.nextBoolean() ? 100001 : 300));
            default:
                return call("digest", 0, 0);
        }
    }

    private static Call ruleCall(Random chance) {
        int which = chance.nextInt(8);
        int most = Plain.MOST[which];
        int v = chance.nextInt(4) == 0 ? most : chance.nextInt(1 + most / (1 + chance.nextInt(20)));
        return call("rule", which, v);
    }

    private static Call wrongCall(Random chance) {
        String[] names = {"line", "rule", "faded", "change", "echo", "tick", "about", "event", "again",
            "mark", "marks", "way", "bind", "own", "echoes", "count"};
        return new Call(names[chance.nextInt(names.length)], odd(chance), odd(chance), odd(chance), odd(chance));
    }

    private static int odd(Random chance) {
        int[] edges = {-1, 0, 1, 2, 3, 4, 5, 8, 9, 12, 200, 201, 300, 20000, 20001, 100000, 100001, BIG, -BIG - 1};
        return chance.nextInt(3) == 0 ? chance.nextInt(16) : edges[chance.nextInt(edges.length)];
    }

    private static Call call(String name, int a, int b) {
        return new Call(name, a, b, 0, 0);
    }

    /** A number and the tick in which it became that; and whether those that bear it are shut. */
    private static final class Penalty {
        int number;
        int since;
        boolean shut;
    }

    private static final class Line {
        int kind;
        int group;
        boolean up = true;
        boolean seen = true;
        int flips;
        int lost;
        int mark;
        List<Integer> eventTicks = new ArrayList<>();
        Penalty penalty;
    }

    private record Event(int line, int what, int tick) { }

    private record Letter(int from, int to, List<Integer> row) { }

    /** The document, in its plainest form. */
    private static final class Plain {
        static final int[] LEAST = {0, 0, 0, 1, 1, 1, 1, 0};
        static final int[] MOST = {10000, 10000, 10000, 500, 20000, 20000, 100000, 1000};
        final int[] rules = {1000, 0, 500, 60, 3000, 750, 12000, 120};
        final List<Line> lines = new ArrayList<>();
        final Penalty[] groups = {new Penalty(), new Penalty(), new Penalty(), new Penalty()};
        List<Event> log = new ArrayList<>();
        int now;
        final boolean[][] ways = new boolean[5][5];
        final List<List<List<Integer>>> told = new ArrayList<>();
        final List<List<Integer>> own = new ArrayList<>();
        final int[][] bound = new int[5][5];
        final int[] echoed = new int[5];
        int letters;

        Plain() {
            for (int i = 0; i < 5; i++) {
                own.add(List.of());
                List<List<Integer>> mine = new ArrayList<>();
                for (int k = 0; k < 5; k++) {
                    mine.add(List.of());
                }
                told.add(mine);
                Arrays.fill(bound[i], -1);
            }
        }

        int line(int kind, int group) {
            if (kind < 0 || kind > 2 || kind == 1 && (group < 0 || group > 3)) {
                return -2;
            }
            if (lines.size() == 12) {
                return -4;
            }
            Line line = new Line();
            line.kind = kind;
            line.group = group;
            line.penalty = kind == 1 ? groups[group] : new Penalty();
            line.seen = !line.penalty.shut;
            lines.add(line);
            return lines.size() - 1;
        }

        int rule(int which, int v) {
            if (which < 0 || which > 7 || v < LEAST[which] || v > MOST[which]) {
                return -2;
            }
            if (which == 4 && v < rules[5] || which == 5 && v > rules[4]) {
                return -2;
            }
            for (Penalty p : groups) {
                rest(p);
            }
            for (Line line : lines) {
                rest(line.penalty);
            }
            int before = rules[which];
            rules[which] = v;
            return before;
        }

        private void rest(Penalty p) {
            p.number = value(p);
            p.since = now;
        }

        private int value(Penalty p) {
            return fade(p.number, now - p.since);
        }

        private int fade(int p, int d) {
            long left = p;
            int rest = d;
            while (rest >= rules[3]) {
                left /= 2;
                rest -= rules[3];
            }
            return (int) (left - left * rest / (2 * rules[3]));
        }

        int faded(int p, int d) {
            return p < 0 || p > 100000 || d < 0 || d > 100000 ? -2 : fade(p, d);
        }

        private boolean isLine(int line) {
            return line >= 0 && line < lines.size();
        }

        int change(int line, boolean up) {
            if (!isLine(line)) {
                return -2;
            }
            if (lines.get(line).up == up) {
                return -3;
            }
            return happen(line, up ? 1 : 0);
        }

        int echo(int line) {
            return isLine(line) ? happen(line, 2) : -2;
        }

        private int happen(int number, int what) {
            if (log.size() == 300) {
                return -4;
            }
            log.add(new Event(number, what, now));
            Line line = lines.get(number);
            int weight = rules[what];
            if (line.kind == 2 && what == 0) {
                boolean quiet = true;
                for (int t : line.eventTicks) {
                    quiet &= t < now - rules[7];
                }
                weight = quiet ? 0 : weight;
            }
            line.eventTicks.add(now);
            if (what < 2) {
                line.up = what == 1;
            }
            line.penalty.number = Math.min(rules[6], value(line.penalty) + weight);
            line.penalty.since = now;
            if (line.penalty.number > rules[4]) {
                line.penalty.shut = true;
            }
            look();
            return line.penalty.number;
        }

        private void look() {
            for (Line line : lines) {
                boolean seen = line.up && !line.penalty.shut;
                line.flips += seen != line.seen ? 1 : 0;
                line.seen = seen;
            }
        }

        private void oneTick() {
            now++;
            for (Line line : lines) {
                if (line.penalty.shut && value(line.penalty) < rules[5]) {
                    line.penalty.shut = false;
                }
            }
            look();
            for (Line line : lines) {
                line.lost += line.up && line.penalty.shut ? 1 : 0;
            }
        }

        int tick(int n) {
            if (n < 1 || n > 200) {
                return -2;
            }
            if (now + n > 2000) {
                return -4;
            }
            for (int i = 0; i < n; i++) {
                oneTick();
            }
            return now;
        }

        int about(int number, int what) {
            if (!isLine(number) || what < 0 || what > 8) {
                return -2;
            }
            Line line = lines.get(number);
            int[] all = {value(line.penalty), line.up ? 1 : 0, line.penalty.shut ? 1 : 0,
                line.up && !line.penalty.shut ? 1 : 0, line.flips, line.lost, line.kind, opensIn(line.penalty), line.mark};
            return all[what];
        }

        private int opensIn(Penalty p) {
            int d = 0;
            if (p.shut) {
                do {
                    d++;
                } while (fade(p.number, now + d - p.since) >= rules[5]);
            }
            return d;
        }

        int longest() {
            int d = 0;
            while (fade(rules[6], d) >= rules[5]) {
                d++;
            }
            return d;
        }

        int event(int i, int what) {
            if (i < 0 || what < 0 || what > 2) {
                return -2;
            }
            if (i >= log.size()) {
                return -1;
            }
            Event e = log.get(i);
            return new int[] {e.line, e.what, e.tick}[what];
        }

        private Plain goneOver(int shut, int open) {
            Plain x = new Plain();
            for (Line line : lines) {
                x.line(line.kind, line.group);
            }
            System.arraycopy(rules, 0, x.rules, 0, 8);
            x.rules[4] = shut;
            x.rules[5] = open;
            int next = 0;
            while (true) {
                while (next < log.size() && log.get(next).tick == x.now) {
                    x.happen(log.get(next).line, log.get(next).what);
                    next++;
                }
                if (x.now == now) {
                    return x;
                }
                x.oneTick();
            }
        }

        int again(int line, int shut, int open, int what) {
            if (!isLine(line) || shut < 1 || shut > 20000 || open < 1 || open > shut || what < 0 || what > 1) {
                return -2;
            }
            Line found = goneOver(shut, open).lines.get(line);
            return what == 0 ? found.flips : found.lost;
        }

        int mark(int line, int m) {
            if (!isLine(line) || m < 0 || m > 2) {
                return -2;
            }
            int before = lines.get(line).mark;
            lines.get(line).mark = m;
            return before;
        }

        int marks(int n) {
            if (n < 0 || n > 100) {
                return -2;
            }
            List<Integer> marked = new ArrayList<>();
            for (int i = 0; i < lines.size(); i++) {
                if (lines.get(i).mark != 0) {
                    marked.add(i);
                }
            }
            if (marked.isEmpty()) {
                return -3;
            }
            List<Plain> all = new ArrayList<>();
            for (int shut = 500; shut <= 10000; shut += 500) {
                for (int open = 250; open <= shut; open += 250) {
                    Plain x = goneOver(shut, open);
                    if (meets(x, n, marked)) {
                        return shut * 100000 + open;
                    }
                    all.add(x);
                }
            }
            for (int i : marked) {
                if (!someMeets(all, n, List.of(i))) {
                    return -1000 - 17 * i;
                }
            }
            for (int t : marked) {
                for (int f : marked) {
                    if (lines.get(t).mark == 1 && lines.get(f).mark == 2 && !someMeets(all, n, List.of(t, f))) {
                        return -1000 - (16 * t + f);
                    }
                }
            }
            return -999;
        }

        private boolean someMeets(List<Plain> all, int n, List<Integer> which) {
            for (Plain x : all) {
                if (meets(x, n, which)) {
                    return true;
                }
            }
            return false;
        }

        private boolean meets(Plain x, int n, List<Integer> which) {
            for (int i : which) {
                Line line = x.lines.get(i);
                if (lines.get(i).mark == 1 ? line.lost > 0 : line.flips > n) {
                    return false;
                }
            }
            return true;
        }

        private static boolean isHouse(int h) {
            return h >= 0 && h < 5;
        }

        int way(int a, int b, boolean there) {
            if (!isHouse(a) || !isHouse(b) || a == b) {
                return -2;
            }
            if (ways[a][b] == there) {
                return -3;
            }
            ways[a][b] = there;
            ways[b][a] = there;
            if (!there) {
                told.get(a).set(b, List.of());
                told.get(b).set(a, List.of());
            }
            return 1;
        }

        int bind(int line, int house, int neighbour) {
            if (!isLine(line) || !isHouse(house) || house == 0 || !isHouse(neighbour) || house == neighbour) {
                return -2;
            }
            bound[house][neighbour] = line;
            return 1;
        }

        int flood(boolean cut) {
            ArrayDeque<Letter> post = new ArrayDeque<>();
            Arrays.fill(echoed, 0);
            for (int h = 0; h < 5; h++) {
                find(h, cut, post);
            }
            int came = 0;
            boolean left = false;
            while (!post.isEmpty() && came < 2000) {
                Letter letter = post.poll();
                came++;
                boolean anew = !told.get(letter.to).get(letter.from).equals(letter.row);
                told.get(letter.to).set(letter.from, letter.row);
                if (anew) {
                    echoed[letter.to]++;
                    int line = bound[letter.to][letter.from];
                    left |= line >= 0 && happen(line, 2) == -4;
                }
                find(letter.to, cut, post);
            }
            letters += came;
            return left ? -4 : came;
        }

        private void find(int h, boolean cut, ArrayDeque<Letter> post) {
            List<Integer> found = new ArrayList<>();
            if (h == 0) {
                if (!cut) {
                    found.add(0);
                }
            } else {
                List<Integer> best = null;
                for (List<Integer> row : told.get(h)) {
                    if (!row.isEmpty() && !row.contains(h) && (best == null || row.size() < best.size())) {
                        best = row;
                    }
                }
                if (best != null) {
                    found.add(h);
                    found.addAll(best);
                }
            }
            if (!found.equals(own.get(h))) {
                own.set(h, found);
                for (int k = 0; k < 5; k++) {
                    if (ways[h][k]) {
                        post.add(new Letter(h, k, found));
                    }
                }
            }
        }

        int own(int house, int k) {
            if (!isHouse(house) || k < 0) {
                return -2;
            }
            return k < own.get(house).size() ? own.get(house).get(k) : -1;
        }

        int echoes(int house) {
            return isHouse(house) ? echoed[house] : -2;
        }

        int count(int what) {
            int shut = 0;
            for (Line line : lines) {
                shut += line.penalty.shut ? 1 : 0;
            }
            int there = 0;
            for (boolean[] row : ways) {
                for (boolean way : row) {
                    there += way ? 1 : 0;
                }
            }
            int[] all = {lines.size(), log.size(), now, shut, there / 2, letters};
            return what < 0 || what > 5 ? -2 : all[what];
        }

        long digest() {
            long h = 137;
            for (int i = 0; i < 6; i++) {
                h = 31 * h + count(i);
            }
            for (int i = 0; i < lines.size(); i++) {
                for (int what = 0; what < 9; what++) {
                    h = 31 * h + about(i, what);
                }
            }
            for (int i = 0; i < log.size(); i++) {
                for (int what = 0; what < 3; what++) {
                    h = 31 * h + event(i, what);
                }
            }
            for (List<Integer> row : own) {
                for (int house : row) {
                    h = 31 * h + house;
                }
                h = 31 * h + 9;
            }
            return h;
        }
    }
}
