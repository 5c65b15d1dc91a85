import java.util.ArrayList;
import java.util.List;
import java.util.function.Supplier;
import java.util.function.ToLongFunction;

/**
 * "Refused, changing nothing, the first of: BAD, NO, FULL." Each refused call, in each
 * of some states, is made on one of two objects that are alike; then both must answer
 * a long row of other calls alike. The same is done with the calls that only read.
 */
public final class RefusalsTest {
    private static final int NONE = -1, BAD = -2, NO = -3, FULL = -4;
    private static final int BIG = Integer.MAX_VALUE, SMALL = Integer.MIN_VALUE;
    private static final int SHUT = 4, OPEN = 5;
    /** The rules of every state: 4 and 5 are SHUT and OPEN. */
    private static final int[] RULES = {1000, 30, 500, 60, 1200, 700, 12000, 120};

    private static int wrong = 0;
    private static int made = 0;

    private record Call(String text, ToLongFunction<CalmLines> on) { }

    private record State(String name, Supplier<CalmLines> make) { }

    public static void main(String[] args) {
        for (State state : states()) {
            for (Call call : badCalls(state.make.get().count(0))) {
                refuse(state, call, BAD);
            }
            for (Call call : readings()) {
                leaveAlone(state, call);
            }
        }
        refuseWithNo();
        refuseWithFull();
        firstOfSeveral();
        System.out.println(wrong == 0 ? made + " calls change nothing" : wrong + " calls are not as due");
        if (wrong != 0) {
            System.exit(1);
        }
    }

    private static void tell(String text) {
        wrong++;
        System.out.println(text);
    }

    private static void refuse(State state, Call call, int want) {
        long got = call.on.applyAsLong(state.make.get());
        if (got != want) {
            tell(state.name + ": " + call.text + " answered " + got + ", due is " + want);
        }
        leaveAlone(state, call);
    }

    private static void leaveAlone(State state, Call call) {
        CalmLines x = state.make.get();
        long first = call.on.applyAsLong(x);
        long second = call.on.applyAsLong(x);
        if (first != second) {
            tell(state.name + ": " + call.text + " answered " + first + ", then " + second);
        }
        String differs = difference(answers(x), answers(state.make.get()));
        if (differs != null) {
            tell(state.name + ": " + call.text + " changed something: " + differs);
        }
        made++;
    }

    private static String difference(List<String> got, List<String> want) {
        for (int i = 0; i < want.size(); i++) {
            if (!got.get(i).equals(want.get(i))) {
                return got.get(i) + ", due is " + want.get(i);
            }
        }
        return null;
    }

    /** A row of calls in whose answers everything that an object holds is seen. */
    private static List<String> answers(CalmLines x) {
        List<String> all = new ArrayList<>();
        all.add("digest " + x.digest());
        for (int house = 0; house < 5; house++) {
            all.add("echoes " + x.echoes(house));
        }
        all.add("longest " + x.longest());
        all.add("faded " + x.faded(99999, 31));
        for (int line = 0; line < 12; line++) {
            all.add("again flips " + x.again(line, 900, 250, 0));
            all.add("again lost " + x.again(line, 900, 250, 1));
        }
        all.add("marks " + x.marks(3));
        all.add("tick " + x.tick(13));
        all.add("digest behind tick " + x.digest());
        all.add("forgiven or not " + x.change(2, true) + " " + x.change(2, false));
        all.add("flood " + x.flood(false));
        all.add("digest behind flood " + x.digest());
        for (int a = 0; a < 5; a++) {
            for (int b = a + 1; b < 5; b++) {
                all.add("way " + a + " " + b + " " + x.way(a, b, true));
            }
        }
        all.add("flood cut " + x.flood(true));
        all.add("flood with all ways " + x.flood(false));
        all.add("digest behind floods " + x.digest());
        for (int which = 0; which < 8; which++) {
            all.add("rule " + which + " " + x.rule(which, RULES[which]));
        }
        all.add("shared of a group " + x.line(1, 2));
        all.add("plain " + x.line(0, 0));
        for (int line = 0; line < 12; line++) {
            all.add("echo " + x.echo(line));
        }
        all.add("digest at last " + x.digest());
        return all;
    }

    private static State[] states() {
        return new State[] {new State("new", CalmLines::new), new State("lively", RefusalsTest::lively),
            new State("twelve lines", RefusalsTest::twelveLines), new State("full log", RefusalsTest::fullLog),
            new State("last tick", RefusalsTest::lastTick)};
    }

    private static void putRules(CalmLines x) {
        x.rule(OPEN, RULES[OPEN]);
        for (int which = 0; which < 8; which++) {
            x.rule(which, RULES[which]);
        }
    }

    /** Lines of all kinds, some shut, marked, in the midst of fading; a net with a way that went. */
    private static CalmLines lively() {
        CalmLines x = new CalmLines();
        x.line(0, 0);
        x.line(1, 2);
        x.line(2, 0);
        x.line(1, 2);
        x.line(0, 0);
        putRules(x);
        liven(x);
        return x;
    }

    private static void liven(CalmLines x) {
        int[][] ways = {{0, 1}, {1, 2}, {0, 2}, {2, 3}, {3, 4}};
        for (int[] way : ways) {
            x.way(way[0], way[1], true);
        }
        x.bind(0, 3, 2);
        x.bind(4, 2, 1);
        x.bind(3, 1, 0);
        x.flood(false);
        x.change(0, false);
        x.change(1, false);
        x.echo(3);
        x.change(2, false);
        x.mark(0, 1);
        x.mark(1, 2);
        x.tick(17);
        x.way(0, 2, false);
    }

    private static CalmLines twelveLines() {
        CalmLines x = lively();
        for (int i = 5; i < 12; i++) {
            x.line(i % 3, i % 4);
        }
        return x;
    }

    private static CalmLines fullLog() {
        CalmLines x = lively();
        while (x.count(1) < 290) {
            x.echo(4);
        }
        x.tick(3);
        while (x.count(1) < 300) {
            x.echo(0);
        }
        x.tick(5);
        return x;
    }

    private static CalmLines lastTick() {
        CalmLines x = lively();
        while (x.tick(200) > 0) {
            x.echo(3);
        }
        x.tick(2000 - x.count(2) - 7);
        x.echo(0);
        x.echo(0);
        x.tick(7);
        return x;
    }

    /** Calls that are BAD in every state, with that many lines. */
    private static List<Call> badCalls(int lines) {
        List<Call> all = new ArrayList<>();
        badLineCalls(all, lines);
        badRuleCalls(all);
        badNetCalls(all);
        for (int v : new int[] {SMALL, -1, 3, BIG}) {
            all.add(new Call("line(" + v + ", 0)", x -> x.line(v, 0)));
            all.add(new Call("mark(0, " + v + ")", x -> x.mark(0, v)));
            all.add(new Call("event(0, " + v + ")", x -> x.event(0, v)));
        }
        for (int v : new int[] {SMALL, -1, 4, BIG}) {
            all.add(new Call("line(1, " + v + ")", x -> x.line(1, v)));
        }
        for (int v : new int[] {SMALL, -1, 100001, BIG}) {
            all.add(new Call("faded(" + v + ", 0)", x -> x.faded(v, 0)));
            all.add(new Call("faded(0, " + v + ")", x -> x.faded(0, v)));
        }
        for (int v : new int[] {SMALL, -1, 0, 201, BIG}) {
            all.add(new Call("tick(" + v + ")", x -> x.tick(v)));
        }
        for (int v : new int[] {SMALL, -1, 9, BIG}) {
            all.add(new Call("about(0, " + v + ")", x -> x.about(0, v)));
        }
        for (int v : new int[] {SMALL, -1}) {
            all.add(new Call("event(" + v + ", 0)", x -> x.event(v, 0)));
        }
        for (int v : new int[] {SMALL, -1, 101, BIG}) {
            all.add(new Call("marks(" + v + ")", x -> x.marks(v)));
        }
        for (int v : new int[] {SMALL, -1, 6, BIG}) {
            all.add(new Call("count(" + v + ")", x -> x.count(v)));
        }
        return all;
    }

    private static void badLineCalls(List<Call> all, int lines) {
        for (int v : new int[] {SMALL, -1, lines, 12, BIG}) {
            all.add(new Call("change(" + v + ", false)", x -> x.change(v, false)));
            all.add(new Call("change(" + v + ", true)", x -> x.change(v, true)));
            all.add(new Call("echo(" + v + ")", x -> x.echo(v)));
            all.add(new Call("about(" + v + ", 0)", x -> x.about(v, 0)));
            all.add(new Call("again(" + v + ", 900, 500, 0)", x -> x.again(v, 900, 500, 0)));
            all.add(new Call("mark(" + v + ", 1)", x -> x.mark(v, 1)));
            all.add(new Call("bind(" + v + ", 1, 0)", x -> x.bind(v, 1, 0)));
        }
        for (int v : new int[] {SMALL, -1, 2, BIG}) {
            all.add(new Call("again(0, 900, 500, " + v + ")", x -> x.again(0, 900, 500, v)));
        }
        for (int v : new int[] {SMALL, -1, 0, 20001, BIG}) {
            all.add(new Call("again(0, " + v + ", 1, 0)", x -> x.again(0, v, 1, 0)));
            all.add(new Call("again(0, 20000, " + v + ", 0)", x -> x.again(0, 20000, v, 0)));
        }
        all.add(new Call("again(0, 900, 901, 0)", x -> x.again(0, 900, 901, 0)));
    }

    private static void badRuleCalls(List<Call> all) {
        int[] least = {0, 0, 0, 1, 1, 1, 1, 0};
        int[] most = {10000, 10000, 10000, 500, 20000, 20000, 100000, 1000};
        for (int i = 0; i < 8; i++) {
            int which = i;
            for (int v : new int[] {SMALL, least[i] - 1, most[i] + 1, BIG}) {
                all.add(new Call("rule(" + which + ", " + v + ")", x -> x.rule(which, v)));
            }
        }
        for (int v : new int[] {SMALL, -1, 8, BIG}) {
            all.add(new Call("rule(" + v + ", 1)", x -> x.rule(v, 1)));
        }
        all.add(new Call("SHUT below OPEN", x -> x.rule(SHUT, 699)));
        all.add(new Call("OPEN above SHUT", x -> x.rule(OPEN, 3001)));
    }

    private static void badNetCalls(List<Call> all) {
        for (int v : new int[] {SMALL, -1, 5, BIG}) {
            for (boolean there : new boolean[] {false, true}) {
                all.add(new Call("way(" + v + ", 0, " + there + ")", x -> x.way(v, 0, there)));
                all.add(new Call("way(4, " + v + ", " + there + ")", x -> x.way(4, v, there)));
                all.add(new Call("way(" + v + ", " + v + ", " + there + ")", x -> x.way(v, v, there)));
            }
            all.add(new Call("bind(0, " + v + ", 0)", x -> x.bind(0, v, 0)));
            all.add(new Call("bind(0, 1, " + v + ")", x -> x.bind(0, 1, v)));
            all.add(new Call("own(" + v + ", 0)", x -> x.own(v, 0)));
            all.add(new Call("echoes(" + v + ")", x -> x.echoes(v)));
        }
        for (int i = 0; i < 5; i++) {
            int house = i;
            all.add(new Call("way(" + i + ", " + i + ", true)", x -> x.way(house, house, true)));
            all.add(new Call("way(" + i + ", " + i + ", false)", x -> x.way(house, house, false)));
            all.add(new Call("bind(0, " + i + ", " + i + ")", x -> x.bind(0, house, house)));
            all.add(new Call("bind(0, 0, " + i + ")", x -> x.bind(0, 0, house)));
            all.add(new Call("own(" + i + ", -1)", x -> x.own(house, -1)));
            all.add(new Call("own(" + i + ", " + SMALL + ")", x -> x.own(house, SMALL)));
        }
    }

    /** Calls that answer what is, and change nothing. */
    private static List<Call> readings() {
        List<Call> all = new ArrayList<>();
        all.add(new Call("faded(1000, 61)", x -> x.faded(1000, 61)));
        all.add(new Call("longest()", x -> x.longest()));
        all.add(new Call("digest()", x -> x.digest()));
        for (int i = 0; i <= 8; i++) {
            int what = i;
            all.add(new Call("about(0, " + i + ")", x -> x.about(0, what)));
            all.add(new Call("about(1, " + i + ")", x -> x.about(1, what)));
            all.add(new Call("event(" + i + ", 1)", x -> x.event(what, 1)));
            all.add(new Call("count(" + i + ")", x -> x.count(what)));
            all.add(new Call("echoes(" + i + ")", x -> x.echoes(what)));
            all.add(new Call("own(3, " + i + ")", x -> x.own(3, what)));
        }
        for (int n = 0; n <= 100; n += 20) {
            int flips = n;
            all.add(new Call("marks(" + n + ")", x -> x.marks(flips)));
        }
        all.add(new Call("again(0, 500, 250, 0)", x -> x.again(0, 500, 250, 0)));
        all.add(new Call("again(1, 20000, 20000, 1)", x -> x.again(1, 20000, 20000, 1)));
        all.add(new Call("again(2, 1, 1, 1)", x -> x.again(2, 1, 1, 1)));
        return all;
    }

    private static void refuseWithNo() {
        State unmarked = new State("unmarked", RefusalsTest::unmarked);
        State lively = new State("lively", RefusalsTest::lively);
        State full = new State("full log", RefusalsTest::fullLog);
        refuse(unmarked, new Call("marks(0)", x -> x.marks(0)), NO);
        refuse(unmarked, new Call("marks(100)", x -> x.marks(100)), NO);
        refuse(new State("new", CalmLines::new), new Call("marks(0)", x -> x.marks(0)), NO);
        for (State state : new State[] {lively, full}) {
            boolean[] up = {false, false, false, true, true};
            for (int i = 0; i < up.length; i++) {
                int line = i;
                refuse(state, new Call("change(" + i + ", " + up[i] + ")", x -> x.change(line, up[line])), NO);
            }
            refuse(state, new Call("way(0, 1, true)", x -> x.way(0, 1, true)), NO);
            refuse(state, new Call("way(1, 0, true)", x -> x.way(1, 0, true)), NO);
            refuse(state, new Call("way(0, 2, false)", x -> x.way(0, 2, false)), NO);
            refuse(state, new Call("way(2, 0, false)", x -> x.way(2, 0, false)), NO);
        }
    }

    private static CalmLines unmarked() {
        CalmLines x = lively();
        x.mark(0, 0);
        x.mark(1, 0);
        return x;
    }

    private static void refuseWithFull() {
        State twelve = new State("twelve lines", RefusalsTest::twelveLines);
        for (int i = 0; i < 3; i++) {
            int kind = i;
            refuse(twelve, new Call("line(" + i + ", 2)", x -> x.line(kind, 2)), FULL);
        }
        State full = new State("full log", RefusalsTest::fullLog);
        boolean[] other = {true, true, true, false, false};
        for (int i = 0; i < other.length; i++) {
            int line = i;
            refuse(full, new Call("change(" + i + ", " + other[i] + ")", x -> x.change(line, other[line])), FULL);
            refuse(full, new Call("echo(" + i + ")", x -> x.echo(line)), FULL);
        }
        State last = new State("last tick", RefusalsTest::lastTick);
        refuse(last, new Call("tick(1)", x -> x.tick(1)), FULL);
        refuse(last, new Call("tick(200)", x -> x.tick(200)), FULL);
        State nearly = new State("seven ticks left", RefusalsTest::sevenLeft);
        refuse(nearly, new Call("tick(8)", x -> x.tick(8)), FULL);
        refuse(nearly, new Call("tick(200)", x -> x.tick(200)), FULL);
        due("tick(7)", sevenLeft().tick(7), 2000);
    }

    private static CalmLines sevenLeft() {
        CalmLines x = lively();
        while (x.tick(200) > 0) {
            x.echo(3);
        }
        x.tick(2000 - x.count(2) - 7);
        return x;
    }

    private static void due(String text, long got, long want) {
        if (got != want) {
            tell(text + " answered " + got + ", due is " + want);
        }
    }

    /** Calls for which more than one refusal holds. */
    private static void firstOfSeveral() {
        due("line: BAD kind and FULL", twelveLines().line(3, 0), BAD);
        due("line: BAD kind and FULL", twelveLines().line(-1, 0), BAD);
        due("line: BAD group and FULL", twelveLines().line(1, 4), BAD);
        due("line: BAD group and FULL", twelveLines().line(1, -1), BAD);
        due("line: a group that is not looked at, and FULL", twelveLines().line(0, 4), FULL);
        due("change: BAD and FULL", fullLog().change(5, false), BAD);
        due("change: NO and FULL", fullLog().change(0, false), NO);
        due("change: NO and FULL", fullLog().change(4, true), NO);
        due("echo: BAD and FULL", fullLog().echo(5), BAD);
        due("tick: BAD and FULL", lastTick().tick(0), BAD);
        due("tick: BAD and FULL", lastTick().tick(201), BAD);
        due("tick: BAD and FULL", lastTick().tick(BIG), BAD);
        due("event: BAD and NONE", new CalmLines().event(0, 3), BAD);
        due("event: BAD and NONE", lively().event(BIG, -1), BAD);
        due("event: NONE", lively().event(BIG, 2), NONE);
        due("marks: BAD and NO", new CalmLines().marks(101), BAD);
        due("marks: BAD and NO", unmarked().marks(-1), BAD);
        due("way: BAD and NO", lively().way(3, 3, false), BAD);
        due("way: BAD and NO", lively().way(5, 0, false), BAD);
        due("own: BAD and NONE", new CalmLines().own(5, 0), BAD);
        due("own: BAD and NONE", new CalmLines().own(0, -1), BAD);
    }
}
