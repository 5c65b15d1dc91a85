import java.math.BigInteger;
import java.util.ArrayList;
import java.util.List;

/**
 * Each sentence of the document that names a boundary, in the document's order: the
 * last number that is as told and the first that is not, the empty case and the full
 * one, and what a call answers then. RefusalsTest has what refused calls leave alone.
 */
public final class BoundariesTest {
    private static final int NONE = -1, BAD = -2, NO = -3, FULL = -4;
    private static final int BIG = Integer.MAX_VALUE, SMALL = Integer.MIN_VALUE;
    private static final int PLAIN = 0, SHARED = 1, FORGIVING = 2;
    private static final int DOWN = 0, UP = 1, ECHO = 2, HALF = 3, SHUT = 4, OPEN = 5, CAP = 6, QUIET = 7;
    private static final int PENALTY = 0, IS_UP = 1, IS_SHUT = 2, SEEN = 3, FLIPS = 4, LOST = 5, KIND = 6, OPENS = 7,
        MARK = 8;
    private static final int TRUE_LINE = 1, FLUTTER = 2;
    private static final int LINES = 0, EVENTS = 1, TICK = 2, LINES_SHUT = 3, WAYS = 4, LETTERS = 5;

    private static int wrong = 0;
    private static int sentences = 0;
    private static String sentence = "";

    private static void says(String part, String words) {
        sentence = part + ", '" + words + "'";
        sentences++;
    }

    private static void due(String what, long got, long want) {
        if (got != want) {
            wrong++;
            System.out.println(sentence + ": " + what + " answered " + got + ", due is " + want);
        }
    }

    public static void main(String[] args) {
        whatItIs();
        terms();
        theLog();
        theMarks();
        theNet();
        promises1To5();
        promises6To10();
        promises11To15();
        promises16To20();
        System.out.println(wrong == 0 ? sentences + " sentences hold" : wrong + " answers are not as due");
        if (wrong != 0) {
            System.exit(1);
        }
    }

    private static CalmLines withLines(int... kinds) {
        CalmLines x = new CalmLines();
        for (int kind : kinds) {
            x.line(kind, 0);
        }
        return x;
    }

    private static CalmLines withTwelve() {
        return withLines(0, 0, 0, 0, 0, 0, 0, 0, 0, 0, 0, 0);
    }

    /** A plain line 0 with the rules put as pairs (which, v). */
    private static CalmLines ruled(int... pairs) {
        return put(withLines(PLAIN), pairs);
    }

    private static CalmLines put(CalmLines x, int... pairs) {
        for (int i = 0; i < pairs.length; i += 2) {
            if (x.rule(pairs[i], pairs[i + 1]) < 0) {
                due("rule(" + pairs[i] + ", " + pairs[i + 1] + ") in a test's beginning", BAD, 0);
            }
        }
        return x;
    }

    private static void downUp(CalmLines x, int line) {
        x.change(line, false);
        x.change(line, true);
    }

    private static void ticks(CalmLines x, int n) {
        int left = n;
        while (left > 200) {
            x.tick(200);
            left -= 200;
        }
        if (left > 0) {
            x.tick(left);
        }
    }

    private static void dueAbout(String when, CalmLines x, int line, int... all) {
        for (int what = 0; what < all.length; what++) {
            due(when + ", about(" + line + ", " + what + ")", x.about(line, what), all[what]);
        }
    }

    private static void dueRow(String when, CalmLines x, int house, int... row) {
        for (int k = 0; k < row.length; k++) {
            due(when + ", own(" + house + ", " + k + ")", x.own(house, k), row[k]);
        }
        due(when + ", own(" + house + ") ends", x.own(house, row.length), NONE);
    }

    // ---------------------------------------------------------------- What it is

    private static void whatItIs() {
        says("What it is", "used for at most 512 calls after it has been made");
        CalmLines x = new CalmLines();
        for (int i = 1; i <= 12; i++) {
            due("call " + i, x.line(SHARED, 0), i - 1);
        }
        for (int i = 13; i <= 312; i++) {
            due("call " + i, x.echo(i % 12), Math.min(12000, 500 * (i - 12)));
        }
        x.mark(0, FLUTTER);
        for (int i = 314; i <= 510; i++) {
            due("call " + i, x.marks(1), 50000250);
        }
        due("call 511", x.echo(0), FULL);
        due("call 512", x.count(EVENTS), 300);

        x = new CalmLines();
        for (int i = 1; i <= 511; i++) {
            due("call " + i, x.way(0, 4, i % 2 == 1), 1);
        }
        due("call 512", x.flood(false), 2);
    }

    // --------------------------------------------------------------------- Terms

    private static void terms() {
        linesAsTheyCome();
        sharedOnesTake();
        groupsApart();
        upAtFirst();
        ticksFromZero();
        rulesAtFirst();
        weightBounds();
        markBounds();
        capBounds();
        fadedByWholeSteps();
        fadedByTheRest();
        penaltyAtLaterTicks();
        forgivenByQuiet();
        forgivenWithoutEvents();
        whatIsNotForgiven();
        shutByMoreThanShut();
        shutByEventsAlone();
        openByLessThanOpen();
        openAsTicksComeAlone();
        lostBehindOpening();
        flipsAsLookedAt();
    }

    private static void linesAsTheyCome() {
        says("Terms", "LINES 0 .. 11, as they come");
        CalmLines x = new CalmLines();
        for (int i = 0; i < 12; i++) {
            due("about before it came", x.about(i, PENALTY), BAD);
            due("change before it came", x.change(i, false), BAD);
            due("echo before it came", x.echo(i), BAD);
            due("again before it came", x.again(i, 900, 500, 0), BAD);
            due("mark before it came", x.mark(i, 1), BAD);
            due("bind before it came", x.bind(i, 1, 0), BAD);
            due("its number", x.line(i % 3, i % 4), i);
            due("about, as it came", x.about(i, PENALTY), 0);
            due("again, as it came", x.again(i, 900, 500, 0), 0);
            due("mark, as it came", x.mark(i, 0), 0);
            due("bind, as it came", x.bind(i, 1, 0), 1);
        }
        due("about the twelfth and one", x.about(12, PENALTY), BAD);
        due("the last changes", x.change(11, false), 0);
        due("the last echoes", x.echo(11), 500);
        due("no line 12", x.echo(12), BAD);
    }

    private static void sharedOnesTake() {
        says("Terms", "SHARED ones take what PENALTY their group has");
        CalmLines x = new CalmLines();
        x.tick(7);
        x.line(SHARED, 3);
        due("a group without lines has none", x.about(0, PENALTY), 0);
        x.echo(0);
        x.tick(30);
        x.line(SHARED, 3);
        due("what its group has", x.about(1, PENALTY), 375);
        x.tick(30);
        due("and as it became that: by one whole step", x.about(1, PENALTY), 250);
        due("its group, too", x.about(0, PENALTY), 250);
        x.line(SHARED, 2);
        x.line(PLAIN, 3);
        x.line(FORGIVING, 3);
        due("another group", x.about(2, PENALTY), 0);
        due("PLAIN, whatever group", x.about(3, PENALTY), 0);
        due("FORGIVING, whatever group", x.about(4, PENALTY), 0);
    }

    private static void groupsApart() {
        says("Terms", "SHARED of a group 0 .. 3: all of a group have one PENALTY, and are SHUT together");
        CalmLines x = new CalmLines();
        for (int i = 0; i < 12; i++) {
            x.line(SHARED, i % 4);
        }
        put(x, ECHO, 1000);
        for (int group = 0; group < 4; group++) {
            for (int i = 0; i <= group; i++) {
                x.echo(group + 4 * (i % 3));
            }
        }
        for (int i = 0; i < 12; i++) {
            due("penalty of line " + i, x.about(i, PENALTY), 1000 * (i % 4 + 1));
            due("shut, line " + i, x.about(i, IS_SHUT), i % 4 == 3 ? 1 : 0);
            due("flips of line " + i, x.about(i, FLIPS), i % 4 == 3 ? 1 : 0);
        }
        due("three lines shut", x.count(LINES_SHUT), 3);
        x.change(7, false);
        x.tick(x.about(3, OPENS) - 1);
        due("still shut together", x.count(LINES_SHUT), 3);
        x.tick(1);
        due("open together", x.count(LINES_SHUT), 0);
        due("flips of one that is up", x.about(3, FLIPS), 2);
        due("flips of the one that is down", x.about(7, FLIPS), 1);
    }

    private static void upAtFirst() {
        says("Terms", "Each is UP or DOWN (UP at first)");
        CalmLines x = withLines(PLAIN, SHARED, FORGIVING);
        for (int i = 0; i < 3; i++) {
            dueAbout("at first", x, i, 0, 1, 0, 1, 0, 0, i, 0, 0);
            due("it is so", x.change(i, true), NO);
            due("to DOWN", x.change(i, false) < 0 ? 1 : 0, 0);
            due("is DOWN", x.about(i, IS_UP), 0);
        }
    }

    private static void ticksFromZero() {
        says("Terms", "TIME goes by TICKS, from 0 on");
        CalmLines x = withLines(PLAIN);
        due("at first", x.count(TICK), 0);
        x.echo(0);
        due("the tick of the first event", x.event(0, 2), 0);
        due("the next", x.tick(1), 1);
        x.echo(0);
        due("the tick of the second event", x.event(1, 2), 1);
    }

    private static void rulesAtFirst() {
        says("Terms", "RULES: .. at first");
        int[] first = {1000, 0, 500, 60, 3000, 750, 12000, 120};
        for (int which = 0; which < 8; which++) {
            due("rule " + which, new CalmLines().rule(which, first[which]), first[which]);
        }
        CalmLines x = withLines(PLAIN, FORGIVING);
        due("DOWN", x.change(0, false), 1000);
        due("UP", x.change(0, true), 1000);
        due("ECHO", x.echo(0), 1500);
        due("HALF", x.faded(1000, 60), 500);
    }

    private static void weightBounds() {
        says("Terms", "weights of a CHANGE to DOWN, to UP, of an ECHO (0 .. 10000 each)");
        CalmLines x = ruled(CAP, 100000, DOWN, 0, UP, 0, ECHO, 0);
        due("DOWN 0", x.change(0, false), 0);
        due("UP 0", x.change(0, true), 0);
        due("ECHO 0", x.echo(0), 0);
        put(x, DOWN, 10000);
        due("DOWN 10000", x.change(0, false), 10000);
        due("UP still 0", x.change(0, true), 10000);
        due("ECHO still 0", x.echo(0), 10000);
        put(x, UP, 10000, DOWN, 1);
        due("DOWN 1", x.change(0, false), 10001);
        due("UP 10000", x.change(0, true), 20001);
        put(x, ECHO, 10000);
        due("ECHO 10000", x.echo(0), 30001);
        says("Terms", "HALF (1 .. 500)");
        x = ruled(HALF, 1);
        x.change(0, false);
        x.tick(1);
        due("HALF 1", x.about(0, PENALTY), 500);
        x = ruled(HALF, 500);
        x.change(0, false);
        x.tick(1);
        due("HALF 500, after 1", x.about(0, PENALTY), 999);
        ticks(x, 498);
        due("HALF 500, after 499", x.about(0, PENALTY), 501);
        x.tick(1);
        due("HALF 500, after 500", x.about(0, PENALTY), 500);
    }

    private static void markBounds() {
        says("Terms", "marks SHUT and OPEN (1 .. 20000, OPEN no more than SHUT)");
        CalmLines x = ruled(OPEN, 1, SHUT, 1, ECHO, 1);
        due("1", x.echo(0), 1);
        due("is not more than SHUT of 1", x.about(0, IS_SHUT), 0);
        due("2", x.echo(0), 2);
        due("is more", x.about(0, IS_SHUT), 1);
        due("less than OPEN of 1 is 0, two steps from here", x.about(0, OPENS), 120);
        x.tick(119);
        due("1 is not less than OPEN of 1", x.about(0, IS_SHUT), 1);
        x.tick(1);
        due("0 is less", x.about(0, IS_SHUT), 0);
        x = ruled(SHUT, 20000, OPEN, 20000, CAP, 100000, ECHO, 10000);
        x.echo(0);
        due("20000", x.echo(0), 20000);
        due("is not more than SHUT of 20000", x.about(0, IS_SHUT), 0);
        put(x, ECHO, 1);
        due("20001", x.echo(0), 20001);
        due("is more", x.about(0, IS_SHUT), 1);
        due("19835 is less than OPEN of 20000", x.about(0, OPENS), 1);
    }

    private static void capBounds() {
        says("Terms", "CAP (1 .. 100000)");
        CalmLines x = ruled(CAP, 1);
        due("CAP 1", x.echo(0), 1);
        due("CAP 1, again", x.change(0, false), 1);
        x = ruled(CAP, 100000, ECHO, 10000);
        for (int i = 1; i <= 10; i++) {
            due("up to CAP 100000", x.echo(0), 10000 * i);
        }
        due("not beyond", x.echo(0), 100000);
        says("Terms", "what it is then and the weight, CAP at most");
        x = ruled(CAP, 1500);
        x.change(0, false);
        due("just CAP", x.echo(0), 1500);
        due("CAP", x.echo(0), 1500);
        x = ruled(CAP, 1499);
        x.change(0, false);
        due("one beyond CAP", x.echo(0), 1499);
        x = ruled(CAP, 1501);
        x.change(0, false);
        due("one below CAP", x.echo(0), 1500);
        x.rule(CAP, 10);
        due("no event yet", x.about(0, PENALTY), 1500);
        due("an event of weight 0", x.change(0, true), 10);
        x = new CalmLines();
        x.line(SHARED, 1);
        x.line(SHARED, 1);
        put(x, CAP, 700);
        x.echo(0);
        due("of a group, CAP at most", x.echo(1), 700);
        due("all of it", x.about(0, PENALTY), 700);
    }

    private static void fadedByWholeSteps() {
        says("Terms", "p halved, cut, as often as HALF goes into d");
        CalmLines x = new CalmLines();
        int[] halves = {1, 2, 60, 500};
        for (int half : halves) {
            put(x, HALF, half);
            int p = 100000;
            int[] each = {100000, 50000, 25000, 12500, 6250, 3125, 1562, 781, 390, 195, 97, 48, 24, 12, 6, 3, 1, 0, 0};
            for (int i = 0; i < each.length; i++) {
                due("100000, HALF " + half + ", " + i + " steps", x.faded(p, half * i), each[i]);
            }
        }
        put(x, HALF, 1);
        // Java's shift by 32 shifts by nothing
        int[] many = {31, 32, 33, 48, 63, 64, 65, 96, 99999, 100000};
        for (int d : many) {
            due("100000, HALF 1, " + d + " steps", x.faded(100000, d), 0);
            due("1, HALF 1, " + d + " steps", x.faded(1, d), 0);
        }
        put(x, HALF, 500);
        due("two hundred steps", x.faded(100000, 100000), 0);
    }

    private static void fadedByTheRest() {
        says("Terms", "then that less (it times the rest of d by HALF, by twice HALF, cut)");
        CalmLines x = new CalmLines();
        int[][] all = {{1000, 0, 1000}, {1000, 1, 992}, {1000, 59, 509}, {1000, 60, 500}, {1000, 61, 496},
            {1000, 119, 255}, {1000, 120, 250}, {119, 1, 119}, {120, 1, 119}, {121, 1, 120}, {1, 59, 1}, {2, 59, 2},
            {3, 40, 2}, {3, 39, 3}, {3, 60, 1}, {3, 119, 1}, {3, 120, 0}};
        for (int[] one : all) {
            due("HALF 60, faded(" + one[0] + ", " + one[1] + ")", x.faded(one[0], one[1]), one[2]);
        }
        put(x, HALF, 500);
        int[][] slow = {{100000, 1, 99900}, {100000, 499, 50100}, {999, 1, 999}, {1000, 1, 999}, {100000, 7833, 3},
            {100000, 7834, 2}, {100000, 7999, 2}, {100000, 8000, 1}, {100000, 8499, 1}, {100000, 8500, 0}};
        for (int[] one : slow) {
            due("HALF 500, faded(" + one[0] + ", " + one[1] + ")", x.faded(one[0], one[1]), one[2]);
        }
        put(x, HALF, 1);
        due("no rest by 1", x.faded(99999, 1), 49999);
        put(x, HALF, 2);
        due("a rest of 1 by 4", x.faded(99999, 1), 75000);
    }

    private static void penaltyAtLaterTicks() {
        says("Terms", "at a later TICK it is FADED by those between");
        CalmLines x = withLines(PLAIN);
        x.tick(13);
        x.change(0, false);
        due("at its tick", x.about(0, PENALTY), 1000);
        x.tick(1);
        due("one later", x.about(0, PENALTY), 992);
        x.about(0, PENALTY);
        x.tick(58);
        due("read in between or not", x.about(0, PENALTY), 509);
        x.tick(1);
        due("HALF later", x.about(0, PENALTY), 500);
        says("Terms", "An EVENT makes it what it is then and the weight, at that TICK");
        x.tick(30);
        due("faded", x.about(0, PENALTY), 375);
        due("and the weight", x.echo(0), 875);
        x.tick(60);
        due("from that tick on", x.about(0, PENALTY), 437);
        due("weight 0", x.change(0, true), 437);
        x.tick(30);
        due("from that tick on", x.about(0, PENALTY), 328);
        x.tick(30);
        due("from that tick on", x.about(0, PENALTY), 218);
    }

    private static void forgivenByQuiet() {
        says("Terms", "weight 0 if the LINE had no EVENT at a TICK of t - QUIET or later");
        int[][] all = {{10, 9, 1000}, {10, 10, 1000}, {10, 11, 0}, {0, 0, 1000}, {0, 1, 0}, {1, 1, 1000}, {1, 2, 0},
            {120, 120, 1000}, {120, 121, 0}, {1000, 999, 1000}, {1000, 1000, 1000}, {1000, 1001, 0}};
        for (int[] one : all) {
            CalmLines x = withLines(FORGIVING);
            put(x, QUIET, one[0]);
            x.tick(5);
            downUp(x, 0);
            ticks(x, one[1]);
            due("QUIET " + one[0] + ", " + one[1] + " ticks later", x.change(0, false), one[2]);
        }
        CalmLines x = withLines(FORGIVING);
        put(x, QUIET, 10);
        downUp(x, 0);
        x.tick(10);
        due("an event at tick 0, t - QUIET is 0", x.change(0, false), 1000);
    }

    private static void forgivenWithoutEvents() {
        says("Terms", "if the LINE had no EVENT");
        CalmLines x = withLines(FORGIVING, FORGIVING, PLAIN, FORGIVING);
        due("tick 0", x.change(0, false), 0);
        due("is logged all the same", x.count(EVENTS), 1);
        due("as a flip, too", x.about(0, FLIPS), 1);
        due("events of others are none of its own", x.change(1, false), 0);
        due("PLAIN", x.change(2, false), 1000);
        x.tick(120);
        due("no event, before QUIET is over", x.change(3, false), 0);
        due("late", x.line(FORGIVING, 0), 4);
        due("no event of its own", x.change(4, false), 0);
        x = withLines(FORGIVING);
        put(x, QUIET, 1000);
        due("t - QUIET below 0", x.change(0, false), 0);
        x.change(0, true);
        due("an event that was forgiven is one", x.change(0, false), 1000);
        x = withLines(FORGIVING);
        x.change(0, true);
        x.echo(1);
        due("refused calls are no events", x.change(0, false), 0);
        x = withLines(FORGIVING);
        x.echo(0);
        due("an ECHO at the same tick", x.change(0, false), 1500);
        x = withLines(FORGIVING);
        x.way(0, 1, true);
        x.bind(0, 1, 0);
        x.flood(false);
        due("an ECHO of the net", x.change(0, false), 1500);
        x = withLines(FORGIVING);
        put(x, QUIET, 5);
        x.change(0, false);
        x.tick(6);
        x.change(0, true);
        x.tick(5);
        due("the latest event counts: UP", x.change(0, false), 1000);
    }

    private static void whatIsNotForgiven() {
        says("Terms", "of a FORGIVING LINE a CHANGE to DOWN");
        CalmLines x = withLines(FORGIVING, SHARED, PLAIN, FORGIVING);
        put(x, UP, 40, DOWN, 30, ECHO, 20);
        due("ECHO", x.echo(0), 20);
        due("SHARED", x.change(1, false), 30);
        due("PLAIN", x.change(2, false), 30);
        due("forgiven", x.change(3, false), 0);
        x.tick(200);
        due("UP", x.change(3, true), 40);
    }

    private static void shutByMoreThanShut() {
        says("Terms", "SHUT when by an EVENT its PENALTY is more than SHUT");
        int[] kinds = {PLAIN, SHARED, FORGIVING};
        for (int kind : kinds) {
            CalmLines x = withLines(kind);
            put(x, ECHO, 3000);
            x.echo(0);
            due("just SHUT, kind " + kind, x.about(0, IS_SHUT), 0);
            due("no flip", x.about(0, FLIPS), 0);
            x = withLines(kind);
            put(x, ECHO, 3001);
            x.echo(0);
            due("one more, kind " + kind, x.about(0, IS_SHUT), 1);
            due("a flip", x.about(0, FLIPS), 1);
        }
        CalmLines x = ruled(CAP, 3000, ECHO, 9000);
        x.echo(0);
        due("by CAP never more than SHUT", x.about(0, IS_SHUT), 0);
        x = ruled(ECHO, 3001);
        x.echo(0);
        x.tick(1);
        put(x, ECHO, 0);
        due("2976", x.echo(0), 2976);
        due("an event that leaves it below SHUT does not open", x.about(0, IS_SHUT), 1);
    }

    private static void shutByEventsAlone() {
        says("Terms", "by an EVENT");
        CalmLines x = ruled(ECHO, 2000);
        x.echo(0);
        put(x, SHUT, 1000);
        due("not by a rule", x.about(0, IS_SHUT), 0);
        x.tick(1);
        due("not by a tick", x.about(0, IS_SHUT), 0);
        due("1984 by weight 0", put(x, ECHO, 0).echo(0), 1984);
        due("by an event of weight 0", x.about(0, IS_SHUT), 1);
        x = new CalmLines();
        x.line(SHARED, 0);
        put(x, ECHO, 4000);
        x.echo(0);
        x.line(SHARED, 1);
        due("of another group", x.about(1, IS_SHUT), 0);
    }

    private static void openByLessThanOpen() {
        says("Terms", "all that are SHUT and whose PENALTY is less than OPEN then OPEN");
        // by 1000 and HALF 10 a penalty is 600 at 8 ticks, 550 at 9, 500 at 10, 475 at 11, 450 at 12
        int[][] all = {{550, 9, 1}, {550, 10, 0}, {551, 8, 1}, {551, 9, 0}, {501, 9, 1}, {501, 10, 0}, {500, 10, 1},
            {500, 11, 0}, {476, 10, 1}, {476, 11, 0}, {475, 11, 1}, {475, 12, 0}};
        for (int[] one : all) {
            CalmLines x = ruled(HALF, 10, SHUT, 900, OPEN, one[0]);
            x.echo(0);
            x.echo(0);
            x.tick(one[1]);
            due("OPEN " + one[0] + ", SHUT at tick " + one[1], x.about(0, IS_SHUT), one[2]);
        }
    }

    private static void openAsTicksComeAlone() {
        says("Terms", "As each TICK comes");
        CalmLines x = ruled(ECHO, 4000, HALF, 10);
        x.echo(0);
        put(x, SHUT, 20000, OPEN, 20000);
        due("not by a rule", x.about(0, IS_SHUT), 1);
        x.echo(0);
        due("not by an event", x.about(0, IS_SHUT), 1);
        x.tick(1);
        due("as the tick comes", x.about(0, IS_SHUT), 0);
        x = ruled(ECHO, 4000, HALF, 10, OPEN, 1);
        x.echo(0);
        x.tick(50);
        put(x, OPEN, 3000);
        due("shut till the next tick", x.about(0, IS_SHUT), 1);
        due("lost at each of fifty", x.about(0, LOST), 50);
        x.tick(1);
        due("open", x.about(0, IS_SHUT), 0);
        due("not lost", x.about(0, LOST), 50);
    }

    private static void lostBehindOpening() {
        says("Terms", "LOST: the TICKS at which a LINE is UP and SHUT behind that");
        CalmLines x = ruled(HALF, 10, SHUT, 900, OPEN, 501);
        x.change(0, false);
        x.change(0, true);
        due("none at the tick of the event", x.about(0, LOST), 0);
        x.tick(1);
        due("the next", x.about(0, LOST), 1);
        x.tick(8);
        due("nine", x.about(0, LOST), 9);
        x.tick(1);
        due("not the tick with which it opens", x.about(0, LOST), 9);
        x.tick(100);
        due("none while it is open", x.about(0, LOST), 9);
        x = ruled(HALF, 10, SHUT, 900, OPEN, 501);
        x.change(0, false);
        x.tick(4);
        due("none while it is DOWN", x.about(0, LOST), 0);
        x.change(0, true);
        due("none by becoming UP", x.about(0, LOST), 0);
        x.tick(1);
        due("UP and SHUT", x.about(0, LOST), 1);
        x.change(0, false);
        due("not taken back by becoming DOWN", x.about(0, LOST), 1);
        x = ruled(HALF, 10, SHUT, 900, OPEN, 501);
        downUp(x, 0);
        x.tick(200);
        due("in one call", x.about(0, LOST), 9);
    }

    private static void flipsAsLookedAt() {
        says("Terms", "FLIPS: how often that became otherwise, behind each EVENT and as each TICK comes");
        CalmLines x = ruled(HALF, 10, SHUT, 900, OPEN, 501);
        due("none at first", x.about(0, FLIPS), 0);
        x.change(0, false);
        due("DOWN and SHUT at once is one", x.about(0, FLIPS), 1);
        x.change(0, true);
        due("UP while SHUT is none", x.about(0, FLIPS), 1);
        x.change(0, false);
        due("DOWN while SHUT is none", x.about(0, FLIPS), 1);
        x.tick(200);
        due("opening while DOWN is none", x.about(0, FLIPS), 1);
        x.change(0, true);
        due("UP while open", x.about(0, FLIPS), 2);
        x.echo(0);
        due("an ECHO that does not shut", x.about(0, FLIPS), 2);
        x.echo(0);
        due("an ECHO that shuts", x.about(0, FLIPS), 3);
        x.echo(0);
        due("an ECHO while SHUT", x.about(0, FLIPS), 3);
        x.tick(200);
        due("opening while UP", x.about(0, FLIPS), 4);
        x = ruled(SHUT, 900, ECHO, 950, OPEN, 900, HALF, 1);
        for (int i = 0; i < 4; i++) {
            x.echo(0);
            x.tick(1);
        }
        due("shut and opened four times", x.about(0, FLIPS), 8);
        due("and nothing lost", x.about(0, LOST), 0);
        // 890 and 950 are 1840, then 920: not less than 900
        x.echo(0);
        x.tick(1);
        due("shut, and not opened with the next tick", x.about(0, FLIPS), 9);
        due("but lost", x.about(0, LOST), 1);
        x = ruled(SHUT, 1000, UP, 1);
        x.change(0, false);
        x.change(0, true);
        due("UP and SHUT at once, from DOWN, is none", x.about(0, FLIPS), 1);
    }

    // ------------------------------------------------------------------- The log

    private static void theLog() {
        says("2 THE LOG", "all EVENTS, 300 at most");
        CalmLines x = withLines(PLAIN, PLAIN);
        for (int i = 0; i < 298; i++) {
            due("echo " + i, x.echo(0) > 0 ? 1 : 0, 1);
        }
        due("the 299th", x.change(1, false), 1000);
        due("the 300th", x.change(1, true), 1000);
        due("one more, ECHO", x.echo(1), FULL);
        due("one more, CHANGE", x.change(1, false), FULL);
        due("300", x.count(EVENTS), 300);
        due("the last", x.event(299, 1), 1);
        due("not so many", x.event(300, 1), NONE);
        says("2 THE LOG", "of LINES, by what, at which TICK");
        x = withTwelve();
        ticks(x, 1999);
        x.change(11, false);
        x.tick(1);
        x.change(11, true);
        x.echo(0);
        int[][] all = {{11, 0, 1999}, {11, 1, 2000}, {0, 2, 2000}};
        for (int i = 0; i < all.length; i++) {
            for (int what = 0; what < 3; what++) {
                due("event(" + i + ", " + what + ")", x.event(i, what), all[i][what]);
            }
        }
        goneOverAgain();
        goneOverByTheRulesOfNow();
        cameLater();
    }

    private static void goneOverAgain() {
        says("2 THE LOG", "each EVENT at its TICK (those of one TICK in order, behind what a TICK does as it comes)");
        CalmLines x = ruled(HALF, 10);
        due("no event, no tick: flips", x.again(0, 1, 1, 0), 0);
        due("no event, no tick: lost", x.again(0, 1, 1, 1), 0);
        x.tick(5);
        due("no event: flips", x.again(0, 1, 1, 0), 0);
        due("no event: lost", x.again(0, 1, 1, 1), 0);
        x = ruled(HALF, 10);
        downUp(x, 0);
        due("events of tick 0, no tick: flips", x.again(0, 900, 501, 0), 1);
        due("events of tick 0, no tick: lost", x.again(0, 900, 501, 1), 0);
        due("not shut by 1000: flips", x.again(0, 1000, 501, 0), 2);
        x.tick(9);
        due("up to the tick that is, 9: flips", x.again(0, 900, 501, 0), 1);
        due("up to the tick that is, 9: lost", x.again(0, 900, 501, 1), 9);
        x.tick(1);
        due("up to the tick that is, 10: flips", x.again(0, 900, 501, 0), 2);
        due("up to the tick that is, 10: lost", x.again(0, 900, 501, 1), 9);
        // 500 at tick 10 and 500 anew are 1000: it opens as the tick comes, and is shut by the event
        x.echo(0);
        due("opens ahead of the tick's events: flips", x.again(0, 900, 501, 0), 3);
        due("is lost again as the next tick comes", x.again(0, 900, 501, 1), 9);
        x.tick(1);
        due("is lost again", x.again(0, 900, 501, 1), 10);
        x = withLines(PLAIN);
        put(x, UP, 600, DOWN, 0);
        x.change(0, false);
        x.change(0, true);
        x.change(0, false);
        x.change(0, true);
        due("in order: DOWN, UP and SHUT, DOWN, UP", x.again(0, 599, 1, 0), 1);
        due("in order: SHUT by the last", x.again(0, 600, 1, 0), 3);
        due("in order: not SHUT by 1200", x.again(0, 1200, 1, 0), 4);
    }

    private static void goneOverByTheRulesOfNow() {
        says("2 THE LOG", "GONE OVER AGAIN by some RULES: all LINES as at first, TICK 0");
        CalmLines x = ruled(HALF, 10, SHUT, 900, OPEN, 501);
        downUp(x, 0);
        x.tick(20);
        due("as it was, by the same marks", x.again(0, 900, 501, 1), x.about(0, LOST));
        due("as it was: flips", x.again(0, 900, 501, 0), x.about(0, FLIPS));
        put(x, DOWN, 900);
        due("by the weight of now", x.again(0, 900, 501, 1), 0);
        put(x, DOWN, 1000, HALF, 5);
        due("by HALF of now", x.again(0, 900, 501, 1), 4);
        put(x, CAP, 900);
        due("by CAP of now", x.again(0, 900, 501, 1), 0);
        due("what was, stays", x.about(0, LOST), 9);
        x = withLines(FORGIVING);
        put(x, QUIET, 10);
        downUp(x, 0);
        x.tick(11);
        downUp(x, 0);
        x.tick(1);
        due("forgiven both times", x.again(0, 900, 1, 1), 0);
        put(x, QUIET, 11);
        due("by QUIET of now", x.again(0, 900, 1, 1), 1);
    }

    private static void cameLater() {
        says("2 THE LOG", "A LINE that came later is there from the beginning");
        CalmLines x = new CalmLines();
        x.line(SHARED, 3);
        put(x, HALF, 10);
        downUp(x, 0);
        x.tick(10);
        x.line(SHARED, 3);
        x.line(SHARED, 2);
        due("lost ever since", x.again(1, 900, 501, 1), 9);
        due("flips ever since", x.again(1, 900, 501, 0), 2);
        due("another group", x.again(2, 900, 501, 0), 0);
        due("not so in fact: lost", x.about(1, LOST), 0);
        due("not so in fact: flips", x.about(1, FLIPS), 0);
    }

    // ----------------------------------------------------------------- The marks

    private static void theMarks() {
        greatestAndLeastMarks();
        noTrueLineHasLostAny();
        atMostNFlips();
        noneForOneAlone();
        onlyTheLastOrTheFirst();
        noneInCommon();
        noneIsTold();
    }

    /** A TRUE line 0 whose penalty is p at first, and one tick. */
    private static CalmLines trueWith(int p, int half) {
        CalmLines x = ruled(HALF, half, CAP, p, UP, 10000, DOWN, 10000);
        downUp(x, 0);
        x.tick(1);
        x.mark(0, TRUE_LINE);
        return x;
    }

    private static void greatestAndLeastMarks() {
        says("2 THE LOG", "of SHUT 500, 1000, .. 10000 and OPEN 250, 500, .. up to SHUT");
        due("the least of both", trueWith(500, 500).marks(0), 50000250);
        due("501 is more than 500, and at the next tick, too", trueWith(501, 500).marks(0), 100000250);
        due("501, then 497: less than 500, but not than 250", trueWith(501, 60).marks(0), 50000500);
        due("498, 249", trueWith(498, 1).marks(0), 50000250);
        due("501, then 250: not less than 250", trueWith(501, 1).marks(0), 50000500);
        due("999, then 499", trueWith(999, 1).marks(0), 50000500);
        due("1000, then 500: not less than 500; not more than 1000", trueWith(1000, 1).marks(0), 100000250);
        due("1001, then 500: less than 750", trueWith(1001, 1).marks(0), 100000750);
        due("1499, then 749: less than 750", trueWith(1499, 1).marks(0), 100000750);
        due("1500, then 750: not less than 750", trueWith(1500, 1).marks(0), 100001000);
        due("1501, then 750: less than 1000", trueWith(1501, 1).marks(0), 100001000);
        due("9500", trueWith(9500, 500).marks(0), 950000250);
        due("10000", trueWith(10000, 500).marks(0), 1000000250);
        due("10009, then 9999", trueWith(10009, 500).marks(0), 1000010000);
        due("10010, then 10000: not less than the greatest OPEN", trueWith(10010, 500).marks(0), -1000);
        says("2 THE LOG", "the least SHUT, of like ones the least OPEN");
        due("1003, then 501: 750 and 1000 would do", trueWith(1003, 1).marks(0), 100000750);
        due("9501, then 9492: 10000 with each OPEN would do", trueWith(9501, 500).marks(0), 950009500);
    }

    private static void noTrueLineHasLostAny() {
        says("2 THE LOG", "no TRUE LINE has LOST any TICK");
        CalmLines x = ruled(HALF, 500, DOWN, 5000);
        downUp(x, 0);
        x.mark(0, TRUE_LINE);
        due("no tick, nothing is lost", x.marks(0), 50000250);
        x.tick(1);
        due("one tick is lost below 5000", x.marks(0), 500000250);
        x.mark(0, 0);
        x.line(PLAIN, 0);
        x.mark(1, TRUE_LINE);
        due("what the others have LOST is not looked at", x.marks(0), 50000250);
        x = ruled(HALF, 500, DOWN, 5000);
        x.change(0, false);
        x.tick(9);
        x.mark(0, TRUE_LINE);
        due("DOWN, nothing is lost; flips are not looked at", x.marks(0), 50000250);
    }

    private static void atMostNFlips() {
        says("2 THE LOG", "each FLUTTER one has at most n FLIPS");
        CalmLines x = ruled(DOWN, 0);
        x.mark(0, FLUTTER);
        due("no flip, n 0", x.marks(0), 50000250);
        x.change(0, false);
        due("one flip, n 1", x.marks(1), 50000250);
        due("one flip, n 0", x.marks(0), -1000);
        for (int i = 1; i < 100; i++) {
            x.change(0, i % 2 == 1);
        }
        due("a hundred flips, n 100", x.marks(100), 50000250);
        due("a hundred flips, n 99", x.marks(99), -1000);
        x.change(0, true);
        x.change(0, false);
        due("more flips than n can be", x.marks(100), -1000);
        x = ruled(HALF, 500, DOWN, 600);
        for (int i = 0; i < 4; i++) {
            downUp(x, 0);
        }
        x.mark(0, FLUTTER);
        due("shut by 600", x.marks(1), 50000250);
        x.tick(9);
        due("and lost nine; that is not looked at", x.marks(1), 50000250);
        due("no mark keeps back the first", x.marks(0), -1000);
    }

    private static void noneForOneAlone() {
        says("2 THE LOG", "the first LINE (by numbers) for which alone there are none, with itself");
        CalmLines x = withTwelve();
        put(x, HALF, 500, UP, 10000, CAP, 20000);
        for (int i = 5; i < 12; i++) {
            downUp(x, i);
        }
        x.tick(1);
        x.mark(11, TRUE_LINE);
        due("the last line", x.marks(100), -1000 - 11 * 17);
        x.mark(10, FLUTTER);
        due("line 10 has some for 100", x.marks(100), -1000 - 11 * 17);
        due("line 10 is the first", x.marks(0), -1000 - 10 * 17);
        x.mark(6, TRUE_LINE);
        due("TRUE and FLUTTER alike, by numbers", x.marks(0), -1000 - 6 * 17);
        x.mark(0, TRUE_LINE);
        x.mark(1, FLUTTER);
        due("lines that have some are passed over", x.marks(0), -1000 - 6 * 17);
        x.mark(6, 0);
        x.mark(10, 0);
        due("lines that are not MARKED, too", x.marks(0), -1000 - 11 * 17);
    }

    private static void onlyTheLastOrTheFirst() {
        says("2 THE LOG", "if each has some");
        CalmLines x = withLines(PLAIN, PLAIN);
        put(x, HALF, 500, CAP, 10009, DOWN, 10000, UP, 10000);
        downUp(x, 0);
        x.tick(1);
        downUp(x, 1);
        x.mark(0, TRUE_LINE);
        x.mark(1, FLUTTER);
        due("TRUE 0 has the greatest marks alone; FLUTTER 1 has them, too", x.marks(1), 1000010000);
        downUp(x, 1);
        x.tick(9);
        due("FLUTTER 1 opens by those", x.marks(1), -1001);
        x = withLines(PLAIN, PLAIN);
        put(x, HALF, 500, DOWN, 501);
        downUp(x, 0);
        downUp(x, 1);
        x.tick(4);
        x.mark(1, FLUTTER);
        due("FLUTTER 1 has the least marks: opens by OPEN 500, not shut by SHUT 1000", x.marks(1), 50000250);
        x.mark(0, TRUE_LINE);
        due("TRUE 0 has LOST by those", x.marks(1), -1001);
    }

    /** Lines that each go down and up four times, SHUT of 4000 or else 3 ticks LOST. */
    private static CalmLines restless(int... lines) {
        CalmLines x = withTwelve();
        put(x, HALF, 500);
        for (int i = 0; i < 4; i++) {
            for (int line : lines) {
                downUp(x, line);
            }
            x.tick(1);
        }
        return x;
    }

    private static void noneInCommon() {
        says("2 THE LOG", "the first TRUE one, and the first FLUTTER one, that have none in common");
        CalmLines x = restless(10, 11);
        x.mark(10, TRUE_LINE);
        x.mark(11, FLUTTER);
        due("TRUE 10, FLUTTER 11", x.marks(2), -1000 - (10 * 16 + 11));
        x.mark(10, FLUTTER);
        x.mark(11, TRUE_LINE);
        due("TRUE 11, FLUTTER 10", x.marks(2), -1000 - (11 * 16 + 10));
        due("seven flips are not enough", x.marks(7), -1000 - (11 * 16 + 10));
        due("eight are", x.marks(8), 400000250);
        x = restless(0, 1);
        x.mark(0, TRUE_LINE);
        x.mark(1, FLUTTER);
        due("TRUE 0, FLUTTER 1", x.marks(2), -1001);
        x.mark(0, FLUTTER);
        x.mark(1, TRUE_LINE);
        due("TRUE 1, FLUTTER 0", x.marks(2), -1016);
        x = restless(2, 4, 5, 7, 8);
        x.mark(0, TRUE_LINE);
        x.mark(1, FLUTTER);
        x.mark(2, FLUTTER);
        x.mark(5, TRUE_LINE);
        x.mark(7, TRUE_LINE);
        x.mark(8, FLUTTER);
        due("TRUE 0 has some with each, TRUE 5 none with FLUTTER 2", x.marks(2), -1000 - (5 * 16 + 2));
        x.mark(2, 0);
        due("the first FLUTTER one with which it has none", x.marks(2), -1000 - (5 * 16 + 8));
        x.mark(5, 0);
        due("the next TRUE one", x.marks(2), -1000 - (7 * 16 + 8));
        x.mark(7, 0);
        due("all have some in common", x.marks(2), 50000250);
    }

    private static void noneIsTold() {
        says("2 THE LOG", "if those have, too: none is told");
        CalmLines x = withTwelve();
        x.mark(10, FLUTTER);
        x.mark(11, FLUTTER);
        put(x, HALF, 1, DOWN, 0, ECHO, 600, UP, 600);
        for (int i = 0; i < 4; i++) {
            x.echo(10);
            x.tick(4);
        }
        for (int i = 0; i < 2; i++) {
            downUp(x, 11);
        }
        due("two FLUTTER ones alone", x.marks(2), -999);
        x.mark(2, TRUE_LINE);
        due("and a TRUE one that has some with each of them", x.marks(2), -999);
        due("for more flips there are", x.marks(4), 100000250);
    }

    // ------------------------------------------------------------------- The net

    private static CalmLines withWays(int... pairs) {
        CalmLines x = new CalmLines();
        for (int i = 0; i < pairs.length; i += 2) {
            due("way in a test's beginning", x.way(pairs[i], pairs[i + 1], true), 1);
        }
        return x;
    }

    private static void theNet() {
        rowsAndOwn();
        goalOwn();
        sendsByNumbers();
        toldAnew();
        echoOfTheBound();
        mostLetters();
    }

    private static void rowsAndOwn() {
        says("3 THE NET", "of those ROWS in which it is not, the shortest, of like ones that of the least neighbour");
        CalmLines x = withWays(0, 3, 0, 2, 3, 4, 2, 4);
        x.flood(false);
        dueRow("like ones, the least neighbour", x, 4, 4, 2, 0);
        x = withWays(0, 1, 1, 2, 2, 4, 0, 3, 3, 4);
        x.flood(false);
        dueRow("the shortest, though of a greater neighbour", x, 4, 4, 3, 0);
        dueRow("the shortest, of a lesser neighbour", x, 2, 2, 1, 0);
        x = withWays(0, 1, 1, 2, 2, 3);
        x.flood(false);
        x.way(0, 1, false);
        x.flood(false);
        dueRow("what 2 told has 1 in it", x, 1);
        dueRow("what 3 told has 2 in it", x, 2);
        dueRow("what 2 told is none", x, 3);
        says("3 THE NET", "none, if there is none");
        x = withWays(1, 2, 2, 3, 3, 4);
        due("nothing to send but to itself", x.flood(false), 0);
        for (int house = 1; house < 5; house++) {
            dueRow("far from 0", x, house);
        }
        says("3 THE NET", "HOUSES 0 .. 4 and WAYS between two");
        x = withWays(0, 1, 0, 2, 0, 3, 0, 4, 1, 2, 1, 3, 1, 4, 2, 3, 2, 4, 3, 4);
        due("all ways", x.count(WAYS), 10);
        due("0 to four, four to each four", x.flood(false), 20);
        for (int house = 1; house < 5; house++) {
            dueRow("all ways", x, house, house, 0);
        }
        x = withWays(4, 3, 3, 2, 2, 1, 1, 0);
        x.flood(false);
        dueRow("the longest", x, 4, 4, 3, 2, 1, 0);
    }

    private static void goalOwn() {
        says("3 THE NET", "0's own is itself alone, or none while it is CUT");
        CalmLines x = withWays(0, 1);
        dueRow("before the first flood", x, 0);
        x.flood(true);
        dueRow("CUT", x, 0);
        x.flood(false);
        dueRow("not CUT", x, 0, 0);
        dueRow("told", x, 1, 1, 0);
        x.flood(true);
        dueRow("CUT again", x, 0);
        dueRow("told none", x, 1);
        says("3 THE NET", "Own ones are found as told of flood(), and as LETTERS come");
        x.flood(false);
        x.way(0, 1, false);
        dueRow("a way that goes changes no own", x, 1, 1, 0);
        x.flood(false);
        dueRow("till flood()", x, 1);
    }

    private static void sendsByNumbers() {
        says("3 THE NET", "When its own becomes another one it sends that (or none) to all its neighbours");
        CalmLines x = withWays(0, 1, 0, 2);
        due("0 to 1 and 2, both back", x.flood(false), 4);
        due("nothing becomes another one", x.flood(false), 0);
        due("none is sent, too", x.flood(true), 4);
        due("none stays none", x.flood(true), 0);
        says("3 THE NET", "by numbers. LETTERS come one after another, as they were sent");
        x = withLines(PLAIN, PLAIN, PLAIN, PLAIN);
        for (int i = 0; i < 4; i++) {
            x.way(0, 4 - i, true);
            x.bind(i, i + 1, 0);
        }
        x.flood(false);
        for (int i = 0; i < 4; i++) {
            due("letter " + i, x.event(i, 0), i);
        }
        x = withLines(PLAIN, PLAIN, PLAIN, PLAIN);
        // 0 tells 2 and 3; 2 tells 0, 4; 3 tells 0, 4; 4 tells 2, 3
        x.way(0, 3, true);
        x.way(0, 2, true);
        x.way(2, 4, true);
        x.way(3, 4, true);
        x.bind(0, 4, 3);
        x.bind(1, 4, 2);
        x.bind(2, 3, 4);
        x.bind(3, 2, 4);
        due("letters", x.flood(false), 8);
        int[] order = {1, 0, 3, 2};
        for (int i = 0; i < order.length; i++) {
            due("letter " + i, x.event(i, 0), order[i]);
        }
    }

    private static void toldAnew() {
        says("3 THE NET", "What is told anew, unlike to what was, is an ECHO");
        CalmLines x = withLines(PLAIN);
        x.way(0, 1, true);
        x.bind(0, 1, 0);
        x.flood(false);
        due("unlike to none", x.count(EVENTS), 1);
        x.way(0, 1, false);
        x.way(0, 1, true);
        // 0's own is as it was: it sends nothing; 1 finds none
        due("1 to 0", x.flood(false), 1);
        due("nothing was told to 1", x.count(EVENTS), 1);
        due("CUT: 0 to 1", x.flood(true), 1);
        due("none told where none was", x.count(EVENTS), 1);
        due("no echo", x.echoes(1), 0);
        x.flood(false);
        due("a row where none was", x.count(EVENTS), 2);
        x.flood(true);
        due("none where a row was", x.count(EVENTS), 3);
        x = withLines(PLAIN);
        for (int[] way : new int[][] {{0, 1}, {1, 3}, {0, 4}, {4, 2}, {2, 3}}) {
            x.way(way[0], way[1], true);
        }
        x.bind(0, 2, 3);
        x.flood(false);
        due("one row", x.count(EVENTS), 1);
        x.way(0, 1, false);
        x.flood(false);
        due("another row, though no shorter one and with 2 in it", x.count(EVENTS), 2);
    }

    private static void echoOfTheBound() {
        says("3 THE NET", "an ECHO of the LINE that is BOUND to that HOUSE and neighbour, if one is");
        CalmLines x = withLines(PLAIN, PLAIN);
        x.way(0, 1, true);
        x.way(1, 2, true);
        x.bind(0, 1, 2);
        x.bind(1, 2, 1);
        x.tick(3);
        due("letters", x.flood(false), 4);
        due("two of four are BOUND", x.count(EVENTS), 2);
        int[][] all = {{1, 2, 3}, {0, 2, 3}};
        for (int i = 0; i < all.length; i++) {
            for (int what = 0; what < 3; what++) {
                due("event(" + i + ", " + what + ")", x.event(i, what), all[i][what]);
            }
        }
        says("3 THE NET", "all at the TICK that is");
        due("no tick goes by", x.count(TICK), 3);
        due("the weight", x.about(0, PENALTY), 500);
        x = withLines(PLAIN);
        x.rule(ECHO, 3001);
        x.way(0, 4, true);
        x.bind(0, 4, 0);
        x.flood(false);
        due("such an ECHO shuts, too", x.about(0, IS_SHUT), 1);
        due("and flips", x.about(0, FLIPS), 1);
    }

    /** The most letters that any search found in one flood: far below 2000, so that none of them is gone. */
    private static void mostLetters() {
        says("3 THE NET", "2000 LETTERS at most in one FLOOD");
        int[][] pairs = {{0, 1}, {0, 2}, {0, 3}, {0, 4}, {1, 2}, {1, 3}, {1, 4}, {2, 3}, {2, 4}, {3, 4}};
        int[] steps = {10, 4, 11, 10, 1, 1, 9, 1, 6, 1, 3, 10, 10, 0, 10, 10, 2, 3, 5, 2, 11, 0, 10, 3, 2, 8, 0, 4, 9,
            10, 11, 3, 5, 5, 0, 3, 9, 0, 1, 7, 10, 4, 3, 4, 3, 3, 3, 2, 4, 2, 11};
        boolean[] there = new boolean[pairs.length];
        CalmLines x = new CalmLines();
        int last = 0;
        int sum = 0;
        for (int step : steps) {
            if (step < 10) {
                there[step] = !there[step];
                x.way(pairs[step][0], pairs[step][1], there[step]);
            } else {
                last = x.flood(step == 11);
                sum += last;
            }
        }
        due("the last flood", last, 224);
        due("all of them", x.count(LETTERS), sum);
        for (int house = 0; house < 5; house++) {
            dueRow("none is left", x, house);
        }
        due("nothing more to come", x.flood(true), 0);
    }

    // -------------------------------------------------------------- The promises

    private static void promises1To5() {
        says("Promise 1", "No LINES, no WAYS; nothing was told, no HOUSE (0, too) has its own");
        CalmLines x = new CalmLines();
        for (int what = 0; what <= 5; what++) {
            due("count(" + what + ")", x.count(what), 0);
        }
        for (int house = 0; house < 5; house++) {
            dueRow("new", x, house);
            due("echoes(" + house + ")", x.echoes(house), 0);
        }
        due("no event", x.event(0, 0), NONE);
        due("no line", x.about(0, 0), BAD);
        lineBounds();
        ruleBounds();
        rulesFromNowOn();
        fadedBounds();
        changeBounds();
    }

    private static void lineBounds() {
        says("Promise 2", "BAD: also the group of SHARED ones (of others it is not looked at)");
        CalmLines x = new CalmLines();
        int[] badKinds = {SMALL, -1, 3, BIG};
        for (int kind : badKinds) {
            due("kind " + kind, x.line(kind, 0), BAD);
        }
        int[] badGroups = {SMALL, -1, 4, BIG};
        for (int group : badGroups) {
            due("SHARED of " + group, x.line(SHARED, group), BAD);
        }
        int next = 0;
        for (int group : badGroups) {
            due("PLAIN of " + group, x.line(PLAIN, group), next++);
            due("FORGIVING of " + group, x.line(FORGIVING, group), next++);
        }
        due("SHARED of 0", x.line(SHARED, 0), 8);
        due("SHARED of 3", x.line(SHARED, 3), 9);
        due("kind", x.about(0, KIND), PLAIN);
        due("kind", x.about(1, KIND), FORGIVING);
        due("kind", x.about(8, KIND), SHARED);
        says("Promise 2", "FULL: 12");
        due("the eleventh", x.line(PLAIN, 0), 10);
        due("the twelfth", x.line(PLAIN, 0), 11);
        for (int kind = 0; kind < 3; kind++) {
            due("one more, kind " + kind, x.line(kind, 0), FULL);
        }
        due("twelve", x.count(LINES), 12);
    }

    private static void ruleBounds() {
        says("Promise 3", "RULE 0 .. 7 becomes v: what it was");
        int[] least = {0, 0, 0, 1, 1, 1, 1, 0};
        int[] most = {10000, 10000, 10000, 500, 20000, 20000, 100000, 1000};
        int[] first = {1000, 0, 500, 60, 3000, 750, 12000, 120};
        for (int which = 0; which < 8; which++) {
            CalmLines x = new CalmLines();
            due("SHUT at its most", x.rule(SHUT, 20000), 3000);
            due("OPEN at its least", x.rule(OPEN, 1), 750);
            int was = which == SHUT ? 20000 : which == OPEN ? 1 : first[which];
            int[] bad = {SMALL, -1, least[which] - 1, most[which] + 1, BIG};
            for (int v : bad) {
                due("rule(" + which + ", " + v + ")", x.rule(which, v), BAD);
            }
            due("rule " + which + " at its least", x.rule(which, least[which]), was);
            due("rule " + which + " at its most", x.rule(which, most[which]), least[which]);
            due("rule " + which + " as it is", x.rule(which, most[which]), most[which]);
            due("rule " + which + " as at first", x.rule(which, first[which]), most[which]);
        }
        CalmLines x = new CalmLines();
        int[] badWhich = {SMALL, -1, 8, BIG};
        for (int which : badWhich) {
            due("rule(" + which + ", 1)", x.rule(which, 1), BAD);
        }
        says("Promise 3", "BAD: also OPEN above SHUT");
        due("OPEN 3001", x.rule(OPEN, 3001), BAD);
        due("OPEN 3000", x.rule(OPEN, 3000), 750);
        due("SHUT 2999", x.rule(SHUT, 2999), BAD);
        due("SHUT 3000", x.rule(SHUT, 3000), 3000);
        due("SHUT 20000", x.rule(SHUT, 20000), 3000);
        due("OPEN 20000", x.rule(OPEN, 20000), 3000);
        due("SHUT 19999", x.rule(SHUT, 19999), BAD);
        due("OPEN 1", x.rule(OPEN, 1), 20000);
        due("SHUT 1", x.rule(SHUT, 1), 20000);
        due("OPEN 2", x.rule(OPEN, 2), BAD);
    }

    private static void rulesFromNowOn() {
        says("Promise 3", "from now on (PENALTIES stay, as they are at this TICK)");
        CalmLines x = withLines(PLAIN, SHARED);
        x.change(0, false);
        x.change(1, false);
        x.tick(30);
        put(x, HALF, 1);
        for (int line = 0; line < 2; line++) {
            due("as it is", x.about(line, PENALTY), 750);
        }
        x.tick(1);
        for (int line = 0; line < 2; line++) {
            due("half of that", x.about(line, PENALTY), 375);
        }
        int[] same = {1000, 0, 500, 60, 3000, 750, 12000, 120};
        for (int which = 0; which < 8; which++) {
            x = withLines(PLAIN);
            x.change(0, false);
            x.tick(30);
            x.rule(which, same[which]);
            due("rule " + which, x.about(0, PENALTY), 750);
            x.tick(30);
            due("rule " + which + ": faded from here", x.about(0, PENALTY), 563);
        }
        x = withLines(PLAIN);
        x.change(0, false);
        put(x, DOWN, 1);
        due("what has happened has the weight it had", x.about(0, PENALTY), 1000);
        x.change(0, true);
        due("from now on", x.change(0, false), 1001);
    }

    private static void fadedBounds() {
        says("Promise 4", "BAD: p not 0 .. 100000, d not 0 .. 100000");
        CalmLines x = new CalmLines();
        int[] bad = {SMALL, -1, 100001, BIG};
        for (int v : bad) {
            due("faded(" + v + ", 0)", x.faded(v, 0), BAD);
            due("faded(0, " + v + ")", x.faded(0, v), BAD);
            due("faded(100000, " + v + ")", x.faded(100000, v), BAD);
            for (int w : bad) {
                due("faded(" + v + ", " + w + ")", x.faded(v, w), BAD);
            }
        }
        due("least, least", x.faded(0, 0), 0);
        due("most, least", x.faded(100000, 0), 100000);
        due("least, most", x.faded(0, 100000), 0);
        due("most, most", x.faded(100000, 100000), 0);
        put(x, CAP, 1);
        due("CAP is not looked at", x.faded(100000, 0), 100000);
    }

    private static void changeBounds() {
        says("Promise 5", "A LINE becomes UP or DOWN: its PENALTY. BAD; NO: it is so; FULL: THE LOG");
        CalmLines x = withLines(PLAIN, PLAIN);
        int[] bad = {SMALL, -1, 2, 11, 12, BIG};
        for (int line : bad) {
            due("change(" + line + ", false)", x.change(line, false), BAD);
            due("change(" + line + ", true)", x.change(line, true), BAD);
        }
        due("the first line", x.change(0, false), 1000);
        due("the last line", x.change(1, false), 1000);
        due("it is so, DOWN", x.change(1, false), NO);
        due("UP", x.change(1, true), 1000);
        due("it is so, UP", x.change(1, true), NO);
        due("three events", x.count(EVENTS), 3);
        for (int i = 3; i < 300; i++) {
            x.echo(0);
        }
        due("FULL", x.change(1, false), FULL);
        due("NO is told ahead of FULL", x.change(1, true), NO);
        due("NO is told ahead of FULL", x.change(0, false), NO);
        due("BAD is told ahead of FULL", x.change(2, false), BAD);
        due("BAD is told ahead of FULL", x.change(-1, true), BAD);
    }

    private static void promises6To10() {
        echoBounds();
        tickBounds();
        aboutBounds();
        aboutOpening();
        longestBounds();
        eventBounds();
    }

    private static void echoBounds() {
        says("Promise 6", "An ECHO of a LINE: its PENALTY. BAD; FULL");
        CalmLines x = withLines(PLAIN, PLAIN);
        int[] bad = {SMALL, -1, 2, 11, 12, BIG};
        for (int line : bad) {
            due("echo(" + line + ")", x.echo(line), BAD);
        }
        due("the first line", x.echo(0), 500);
        due("the last line", x.echo(1), 500);
        due("a LINE that is DOWN", x.change(1, false) + x.echo(1), 1500 + 2000);
        due("is DOWN as before", x.about(1, IS_UP), 0);
        for (int i = 4; i < 300; i++) {
            due("no FULL yet", x.echo(0) > 0 ? 1 : 0, 1);
        }
        due("FULL", x.echo(1), FULL);
        due("BAD is told ahead of FULL", x.echo(2), BAD);
        due("BAD is told ahead of FULL", x.echo(-1), BAD);
    }

    private static void tickBounds() {
        says("Promise 7", "n TICKS (1 .. 200): the TICK");
        CalmLines x = new CalmLines();
        int[] bad = {SMALL, -1, 0, 201, BIG};
        for (int n : bad) {
            due("tick(" + n + ")", x.tick(n), BAD);
        }
        due("no tick went by", x.count(TICK), 0);
        due("tick(1)", x.tick(1), 1);
        due("tick(200)", x.tick(200), 201);
        says("Promise 7", "FULL: beyond 2000");
        ticks(x, 1600);
        due("1801 and 200", x.tick(200), FULL);
        due("as it was", x.count(TICK), 1801);
        due("1801 and 199", x.tick(199), 2000);
        due("2000 and 1", x.tick(1), FULL);
        due("2000 and 200", x.tick(200), FULL);
        for (int n : bad) {
            due("BAD is told ahead of FULL, " + n, x.tick(n), BAD);
        }
        x = new CalmLines();
        for (int i = 1; i <= 10; i++) {
            due("ten times 200", x.tick(200), 200 * i);
        }
        x = withLines(PLAIN);
        ticks(x, 1999);
        due("1999 and 2", x.tick(2), FULL);
        due("1999 and 1", x.tick(1), 2000);
        due("events at the last tick", x.change(0, false), 1000);
        due("lines at the last tick", x.line(PLAIN, 0), 1);
        says("Promise 7", "n TICKS");
        CalmLines one = ruled(HALF, 7, ECHO, 5000);
        CalmLines many = ruled(HALF, 7, ECHO, 5000);
        one.echo(0);
        many.echo(0);
        one.tick(40);
        for (int i = 0; i < 40; i++) {
            many.tick(1);
        }
        due("in one call or in many", one.digest(), many.digest());
    }

    private static void aboutBounds() {
        says("Promise 8", "Of a LINE: 0 .. 8. BAD");
        CalmLines x = withLines(PLAIN, SHARED, FORGIVING);
        int[] badLines = {SMALL, -1, 3, 11, 12, BIG};
        for (int line : badLines) {
            for (int what = -1; what <= 9; what++) {
                due("about(" + line + ", " + what + ")", x.about(line, what), BAD);
            }
        }
        int[] badWhat = {SMALL, -1, 9, BIG};
        for (int what : badWhat) {
            due("about(0, " + what + ")", x.about(0, what), BAD);
            due("about(2, " + what + ")", x.about(2, what), BAD);
        }
        x.mark(2, FLUTTER);
        dueAbout("the first line", x, 0, 0, 1, 0, 1, 0, 0, 0, 0, 0);
        dueAbout("the last line", x, 2, 0, 1, 0, 1, 0, 0, 2, 0, 2);
        put(x, ECHO, 4000, DOWN, 0);
        x.echo(2);
        x.tick(1);
        dueAbout("UP and SHUT", x, 2, 3967, 1, 1, 0, 1, 1, 2, 150, 2);
        x.change(2, false);
        // 3967 at tick 1 is 1983, then 991 at 121, and 991 less (991 * 30 / 120) is 744 at 151
        dueAbout("DOWN and SHUT", x, 2, 3967, 0, 1, 0, 1, 1, 2, 150, 2);
        x.tick(149);
        due("one left", x.about(2, OPENS), 1);
        x.tick(1);
        dueAbout("DOWN and open", x, 2, 744, 0, 0, 0, 1, 1, 2, 0, 2);
    }

    private static void aboutOpening() {
        says("Promise 8", "in how many TICKS it OPENS if nothing comes (0: it is not SHUT)");
        CalmLines x = ruled(ECHO, 3000);
        x.echo(0);
        due("not SHUT, whatever its penalty", x.about(0, OPENS), 0);
        x = ruled(HALF, 10, SHUT, 900, OPEN, 500, ECHO, 1000);
        x.echo(0);
        for (int left = 11; left > 0; left--) {
            due("at tick " + (11 - left), x.about(0, OPENS), left);
            due("SHUT", x.about(0, IS_SHUT), 1);
            x.tick(1);
        }
        due("open", x.about(0, OPENS), 0);
        due("open", x.about(0, IS_SHUT), 0);
        x = ruled(ECHO, 4000);
        x.echo(0);
        put(x, SHUT, 20000, OPEN, 20000);
        due("less than OPEN at this tick already: with the next", x.about(0, OPENS), 1);
        x = ruled(HALF, 500, OPEN, 1, ECHO, 10000);
        x.echo(0);
        due("beyond tick 2000", x.about(0, OPENS), 7000);
        ticks(x, 2000);
        due("at tick 2000", x.about(0, OPENS), 5000);
        due("SHUT at tick 2000", x.about(0, IS_SHUT), 1);
        due("LOST at each tick", x.about(0, LOST), 2000);
        x = ruled(CAP, 100000, HALF, 500, OPEN, 1, ECHO, 10000);
        for (int i = 0; i < 10; i++) {
            x.echo(0);
        }
        due("the longest of all", x.about(0, OPENS), 8500);
        due("as longest() says", x.longest(), 8500);
    }

    private static void longestBounds() {
        says("Promise 9", "the least d for which CAP FADED by d is below OPEN");
        // HALF, OPEN, CAP, longest
        int[][] all = {{60, 750, 12000, 241}, {60, 1000, 1000, 1}, {60, 1000, 999, 0}, {60, 1000, 1, 0},
            {60, 100, 100, 2}, {60, 1, 1, 60}, {1, 1, 1, 1}, {500, 1, 1, 500}, {500, 1, 100000, 8500},
            {1, 1, 100000, 17}, {1, 3000, 100000, 6}, {500, 3000, 3000, 1}, {500, 3000, 2999, 0}, {10, 500, 1000, 11},
            {10, 501, 1000, 10}, {1, 500, 1000, 2}, {1, 501, 1000, 1}, {2, 6, 7, 2}, {3, 10, 11, 2}};
        for (int[] one : all) {
            CalmLines x = new CalmLines();
            put(x, HALF, one[0], OPEN, one[1], CAP, one[2]);
            String by = "HALF " + one[0] + ", OPEN " + one[1] + ", CAP " + one[2];
            due(by, x.longest(), one[3]);
            due(by + ": is below", x.faded(one[2], one[3]) < one[1] ? 1 : 0, 1);
            if (one[3] > 0) {
                due(by + ": the least", x.faded(one[2], one[3] - 1) < one[1] ? 1 : 0, 0);
            }
        }
    }

    private static void eventBounds() {
        says("Promise 10", "EVENT i: 0 LINE, 1 what, 2 TICK. NONE: not so many. BAD");
        CalmLines x = withLines(PLAIN);
        int[] badWhat = {SMALL, -1, 3, BIG};
        int[] badI = {SMALL, -1};
        due("none at all", x.event(0, 0), NONE);
        x.echo(0);
        for (int what = 0; what < 3; what++) {
            due("the only one", x.event(0, what), what == 1 ? 2 : 0);
            due("one beyond", x.event(1, what), NONE);
            due("299", x.event(299, what), NONE);
            due("300", x.event(300, what), NONE);
            due("far beyond", x.event(BIG, what), NONE);
        }
        for (int what : badWhat) {
            due("what " + what, x.event(0, what), BAD);
            due("BAD is told ahead of NONE, what " + what, x.event(1, what), BAD);
        }
        for (int i : badI) {
            for (int what = -1; what <= 3; what++) {
                due("event(" + i + ", " + what + ")", x.event(i, what), BAD);
            }
        }
    }

    private static void promises11To15() {
        againBounds();
        markBoundsOfLines();
        marksBounds();
        wayBounds();
        wayThatGoes();
        bindBounds();
    }

    private static void againBounds() {
        says("Promise 11", "BAD: also marks 1 .. 20000, OPEN above SHUT");
        CalmLines x = withLines(PLAIN, PLAIN);
        x.change(1, false);
        int[] badLines = {SMALL, -1, 2, 11, 12, BIG};
        for (int line : badLines) {
            due("line " + line, x.again(line, 900, 500, 0), BAD);
        }
        int[] badMarks = {SMALL, -1, 0, 20001, BIG};
        for (int v : badMarks) {
            due("SHUT " + v, x.again(0, v, 1, 0), BAD);
            due("OPEN " + v, x.again(0, 20000, v, 0), BAD);
            due("both " + v, x.again(0, v, v, 0), BAD);
        }
        due("OPEN above SHUT", x.again(0, 900, 901, 0), BAD);
        due("OPEN above SHUT", x.again(0, 1, 2, 0), BAD);
        due("OPEN above SHUT", x.again(0, 19999, 20000, 0), BAD);
        int[] badWhat = {SMALL, -1, 2, BIG};
        for (int what : badWhat) {
            due("what " + what, x.again(0, 900, 500, what), BAD);
        }
        due("the least", x.again(1, 1, 1, 0), 1);
        due("the most", x.again(1, 20000, 20000, 0), 1);
        due("far apart", x.again(1, 20000, 1, 1), 0);
        due("alike", x.again(0, 900, 900, 1), 0);
        says("Promise 11", "with marks as told, else THE RULES");
        x = ruled(SHUT, 20000, OPEN, 20000);
        due("marks of THE RULES are not looked at", x.again(0, 500, 250, 0), 0);
    }

    private static void markBoundsOfLines() {
        says("Promise 12", "A LINE is MARKED: what it was. BAD");
        CalmLines x = withTwelve();
        for (int line = 0; line < 12; line += 11) {
            due("at first", x.about(line, MARK), 0);
            due("was not", x.mark(line, 2), 0);
            due("was FLUTTER", x.mark(line, 1), 2);
            due("was TRUE", x.mark(line, 1), 1);
            due("is TRUE", x.about(line, MARK), 1);
            due("was TRUE", x.mark(line, 0), 1);
            due("was not", x.mark(line, 0), 0);
            int[] bad = {SMALL, -1, 3, BIG};
            for (int m : bad) {
                due("mark(" + line + ", " + m + ")", x.mark(line, m), BAD);
            }
        }
        int[] badLines = {SMALL, -1, 12, BIG};
        for (int line : badLines) {
            due("mark(" + line + ", 1)", x.mark(line, 1), BAD);
        }
    }

    private static void marksBounds() {
        says("Promise 13", "MARKS for n (0 .. 100). BAD; NO: no LINE is MARKED");
        int[] bad = {SMALL, -1, 101, BIG};
        CalmLines x = new CalmLines();
        due("no line", x.marks(0), NO);
        for (int n : bad) {
            due("BAD is told ahead of NO, " + n, x.marks(n), BAD);
        }
        x.line(PLAIN, 0);
        due("not MARKED", x.marks(100), NO);
        x.mark(0, TRUE_LINE);
        due("TRUE, n 0", x.marks(0), 50000250);
        due("TRUE, n 100", x.marks(100), 50000250);
        for (int n : bad) {
            due("marks(" + n + ")", x.marks(n), BAD);
        }
        x.mark(0, FLUTTER);
        due("FLUTTER, n 0", x.marks(0), 50000250);
        x.mark(0, 0);
        due("not MARKED any more", x.marks(0), NO);
        x = withTwelve();
        x.mark(11, FLUTTER);
        due("the last line alone", x.marks(0), 50000250);
    }

    private static void wayBounds() {
        says("Promise 14", "BAD: also alike; NO: it is so");
        CalmLines x = new CalmLines();
        int[] bad = {SMALL, -1, 5, BIG};
        for (int house : bad) {
            for (int other = 0; other < 5; other++) {
                due("way(" + house + ", " + other + ")", x.way(house, other, true), BAD);
                due("way(" + other + ", " + house + ")", x.way(other, house, true), BAD);
                due("BAD is told ahead of NO", x.way(house, other, false), BAD);
                due("BAD is told ahead of NO", x.way(other, house, false), BAD);
            }
            due("both", x.way(house, house, true), BAD);
        }
        int ways = 0;
        for (int a = 0; a < 5; a++) {
            due("alike", x.way(a, a, true), BAD);
            due("alike, BAD is told ahead of NO", x.way(a, a, false), BAD);
            for (int b = a + 1; b < 5; b++) {
                due("there is none", x.way(a, b, false), NO);
                due("there is none", x.way(b, a, false), NO);
                due("a way", x.way(a, b, true), 1);
                due("there is one", x.way(a, b, true), NO);
                due("from the other, too", x.way(b, a, true), NO);
                due("ways", x.count(WAYS), ++ways);
            }
        }
        for (int a = 0; a < 5; a++) {
            for (int b = 0; b < a; b++) {
                due("none any more", x.way(a, b, false), 1);
                due("none any more", x.way(b, a, false), NO);
                due("ways", x.count(WAYS), --ways);
            }
        }
        says("Promise 14", "Nothing is sent");
        x = new CalmLines();
        x.flood(false);
        x.way(0, 1, true);
        dueRow("not told", x, 1);
        due("no letters", x.count(LETTERS), 0);
        due("0's own is not another one: not sent by flood, either", x.flood(false), 0);
        dueRow("not told", x, 1);
        x.flood(true);
        due("told with the next that is sent", x.flood(false), 2);
        dueRow("told", x, 1, 1, 0);
    }

    private static void wayThatGoes() {
        says("Promise 14", "what one was told by the other is none, when it goes");
        for (int turn = 0; turn < 2; turn++) {
            CalmLines x = withWays(0, 1, 0, 2, 1, 2);
            x.flood(false);
            // 1 goes by 0; without that way by what 2 told it, [2 0]
            x.way(turn, 1 - turn, false);
            dueRow("its own stays till the flood", x, 1, 1, 0);
            x.flood(false);
            dueRow("the row of 0 is none, that of 2 stays", x, 1, 1, 2, 0);
            x = withWays(0, 1, 0, 2, 1, 2);
            x.flood(false);
            x.way(1 + turn, 2 - turn, false);
            x.way(0, 1, false);
            x.flood(false);
            dueRow("neither 0's nor 2's row", x, 1);
            dueRow("2 goes by 0", x, 2, 2, 0);
        }
        CalmLines x = withWays(0, 1, 1, 2);
        x.flood(false);
        x.way(1, 2, false);
        x.way(1, 2, true);
        due("2 finds none: to 1, who was told none of it since", x.flood(false), 1);
        due("no echo", x.echoes(1), 0);
        dueRow("2 has none", x, 2);
        due("CUT: none to 1; 1 to 0 and 2", x.flood(true), 3);
        due("2 was told none before", x.echoes(2), 0);
    }

    private static void bindBounds() {
        says("Promise 15", "BOUND to a HOUSE (1 .. 4) and a neighbour: 1. BAD");
        CalmLines x = withLines(PLAIN, PLAIN);
        int[] badLines = {SMALL, -1, 2, 11, 12, BIG};
        for (int line : badLines) {
            due("line " + line, x.bind(line, 1, 0), BAD);
        }
        int[] badHouses = {SMALL, -1, 0, 5, BIG};
        for (int house : badHouses) {
            due("house " + house, x.bind(0, house, 1), BAD);
        }
        int[] badNeighbours = {SMALL, -1, 5, BIG};
        for (int neighbour : badNeighbours) {
            due("neighbour " + neighbour, x.bind(0, 1, neighbour), BAD);
        }
        for (int house = 1; house < 5; house++) {
            for (int neighbour = 0; neighbour < 5; neighbour++) {
                due("bind(1, " + house + ", " + neighbour + ")", x.bind(1, house, neighbour),
                    house == neighbour ? BAD : 1);
            }
        }
        says("Promise 15", "a later one takes its place");
        x = withLines(PLAIN, PLAIN, PLAIN);
        x.way(0, 1, true);
        x.bind(0, 1, 0);
        x.bind(1, 1, 0);
        x.bind(2, 1, 2);
        x.flood(false);
        due("not the first", x.about(0, PENALTY), 0);
        due("the later one", x.about(1, PENALTY), 500);
        due("that of another neighbour is apart", x.about(2, PENALTY), 0);
        due("the first again", x.bind(0, 1, 0), 1);
        x.flood(true);
        due("the first again", x.about(0, PENALTY), 500);
        due("not the other", x.about(1, PENALTY), 500);
    }

    private static void promises16To20() {
        floodBounds();
        floodWithFullLog();
        ownBounds();
        echoesBounds();
        countBounds();
        digestWraps();
    }

    private static void floodBounds() {
        says("Promise 16", "All HOUSES find their own anew, by numbers, and send it, if it is another one");
        CalmLines x = new CalmLines();
        due("BAD never, CUT", x.flood(true), 0);
        due("BAD never, not CUT", x.flood(false), 0);
        x = withLines(PLAIN, PLAIN, PLAIN);
        // with both ways gone 1 and 2 find none anew, 1 first, and tell 3 so
        x.way(0, 1, true);
        x.way(0, 2, true);
        x.way(1, 3, true);
        x.way(2, 3, true);
        x.flood(false);
        x.bind(0, 3, 2);
        x.bind(1, 3, 1);
        x.way(0, 2, false);
        x.way(0, 1, false);
        x.flood(false);
        due("1's letter to 3 first", x.event(0, 0), 1);
        due("2's letter to 3 next", x.event(1, 0), 0);
        says("Promise 16", "then LETTERS come till there are none: how many came");
        due("no letters", x.flood(false), 0);
        x = withWays(0, 1);
        due("to 1, and back", x.flood(false), 2);
        due("of all", x.count(LETTERS), 2);
        due("none", x.flood(false), 0);
        due("of all", x.count(LETTERS), 2);
        due("none: to 1, and back", x.flood(true), 2);
        due("of all", x.count(LETTERS), 4);
    }

    /** A net whose first flood has two echoes of bound lines, and a log with that many events. */
    private static CalmLines twoBound(int events) {
        CalmLines x = withLines(PLAIN, PLAIN, PLAIN);
        for (int i = 0; i < events; i++) {
            x.echo(0);
        }
        x.way(0, 1, true);
        x.way(0, 2, true);
        x.bind(1, 1, 0);
        x.bind(2, 2, 0);
        return x;
    }

    private static void floodWithFullLog() {
        says("Promise 16", "FULL: THE LOG (EVENTS beyond are left out, all else is done): -4");
        CalmLines x = twoBound(298);
        due("both just fit", x.flood(false), 4);
        due("300", x.count(EVENTS), 300);
        due("one", x.about(1, PENALTY), 500);
        due("and the other", x.about(2, PENALTY), 500);
        x = twoBound(299);
        due("one is left out", x.flood(false), FULL);
        due("300", x.count(EVENTS), 300);
        due("the first fits", x.about(1, PENALTY), 500);
        due("the other has none", x.about(2, PENALTY), 0);
        x = twoBound(300);
        due("both are left out", x.flood(false), FULL);
        due("300", x.count(EVENTS), 300);
        due("no penalty", x.about(1, PENALTY), 0);
        dueRow("all else is done", x, 0, 0);
        dueRow("all else is done", x, 1, 1, 0);
        dueRow("all else is done", x, 2, 2, 0);
        due("letters came", x.count(LETTERS), 4);
        due("told anew", x.echoes(0), 2);
        due("told anew", x.echoes(1), 1);
        due("told anew", x.echoes(2), 1);
        due("no letter, nothing is left out", x.flood(false), 0);
        x.bind(1, 3, 4);
        x.way(0, 1, false);
        x.way(0, 2, false);
        x.way(0, 4, true);
        // 1 and 2 find none, but have no neighbours; 0 tells 4 none
        due("what comes is not BOUND, nothing is left out", x.flood(true), 1);
    }

    private static void ownBounds() {
        says("Promise 17", "HOUSE k of a HOUSE's own ROW. NONE: not so many. BAD");
        CalmLines x = withWays(0, 1, 1, 2, 2, 3, 3, 4);
        int[] badHouses = {SMALL, -1, 5, BIG};
        int[] badK = {SMALL, -1};
        for (int turn = 0; turn < 2; turn++) {
            for (int house : badHouses) {
                for (int k = -1; k <= 5; k++) {
                    due("own(" + house + ", " + k + ")", x.own(house, k), BAD);
                }
            }
            for (int k : badK) {
                due("own(0, " + k + ")", x.own(0, k), BAD);
                due("own(4, " + k + ")", x.own(4, k), BAD);
            }
            for (int house = 0; house < 5; house++) {
                for (int k = 0; k < 5; k++) {
                    int want = turn == 0 || k > house ? NONE : house - k;
                    due("own(" + house + ", " + k + ")", x.own(house, k), want);
                }
                int[] beyond = {5, 6, 10, 11, 31, 32, 1000, BIG};
                for (int k : beyond) {
                    due("own(" + house + ", " + k + ")", x.own(house, k), NONE);
                }
            }
            x.flood(false);
        }
    }

    private static void echoesBounds() {
        says("Promise 18", "ECHOES (told anew, BOUND or not) a HOUSE had in the latest FLOOD. BAD");
        CalmLines x = withLines(PLAIN);
        int[] bad = {SMALL, -1, 5, BIG};
        for (int house : bad) {
            due("echoes(" + house + ")", x.echoes(house), BAD);
        }
        for (int i = 0; i < 4; i++) {
            x.way(0, i + 1, true);
        }
        x.bind(0, 4, 0);
        for (int house = 0; house < 5; house++) {
            due("no flood yet", x.echoes(house), 0);
        }
        x.echo(0);
        due("not those of echo()", x.echoes(4), 0);
        due("flood", x.flood(false), 8);
        for (int house = 0; house < 5; house++) {
            due("house " + house, x.echoes(house), house == 0 ? 4 : 1);
        }
        x.way(0, 4, false);
        due("as in the latest flood", x.echoes(4), 1);
        x.flood(true);
        int[] latest = {3, 1, 1, 1, 0};
        for (int house = 0; house < 5; house++) {
            due("the latest alone, house " + house, x.echoes(house), latest[house]);
        }
    }

    private static void countBounds() {
        says("Promise 19", "How many: 0 .. 5. BAD");
        CalmLines x = withLines(SHARED, SHARED, PLAIN);
        int[] bad = {SMALL, -1, 6, BIG};
        for (int what : bad) {
            due("count(" + what + ")", x.count(what), BAD);
        }
        put(x, ECHO, 3001);
        x.echo(0);
        x.change(1, false);
        x.tick(5);
        x.way(3, 4, true);
        x.way(0, 4, true);
        x.flood(false);
        int[] all = {3, 2, 5, 2, 2, 4};
        for (int what = 0; what < all.length; what++) {
            due("count(" + what + ")", x.count(what), all[what]);
        }
        x = withTwelve();
        put(x, ECHO, 3001);
        for (int i = 0; i < 12; i++) {
            x.echo(i);
        }
        due("all LINES SHUT", x.count(LINES_SHUT), 12);
        ticks(x, 200);
        due("no LINE SHUT", x.count(LINES_SHUT), 0);
    }

    /** What digest() goes over, read by the other calls, in numbers that do not wrap around. */
    private static long digestByHand(CalmLines x) {
        List<Integer> all = new ArrayList<>();
        for (int what = 0; what <= 5; what++) {
            all.add(x.count(what));
        }
        for (int line = 0; line < x.count(LINES); line++) {
            for (int what = 0; what <= 8; what++) {
                all.add(x.about(line, what));
            }
        }
        for (int i = 0; i < x.count(EVENTS); i++) {
            for (int what = 0; what <= 2; what++) {
                all.add(x.event(i, what));
            }
        }
        for (int house = 0; house < 5; house++) {
            for (int k = 0; x.own(house, k) != NONE; k++) {
                all.add(x.own(house, k));
            }
            all.add(9);
        }
        BigInteger h = BigInteger.valueOf(137);
        for (int v : all) {
            h = h.multiply(BigInteger.valueOf(31)).add(BigInteger.valueOf(v));
        }
        return h.longValue();
    }

    private static void digestWraps() {
        says("Promise 20", "h = 31 h + v for each v");
        due("of a new object", new CalmLines().digest(), digestByHand(new CalmLines()));
        CalmLines x = withWays(0, 1, 1, 2, 2, 3, 3, 4);
        for (int i = 0; i < 12; i++) {
            x.line(i % 3, i % 4);
        }
        x.mark(11, FLUTTER);
        x.mark(3, TRUE_LINE);
        x.bind(0, 4, 3);
        x.flood(false);
        due("some lines, one event, own rows", x.digest(), digestByHand(x));
        for (int i = 0; i < 299; i++) {
            if (i % 3 == 0) {
                x.change(i % 12, x.about(i % 12, IS_UP) == 0);
            } else {
                x.echo(i % 12);
            }
            if (i % 10 == 0) {
                x.tick(1 + i % 7);
            }
        }
        due("a full log", x.count(EVENTS), 300);
        due("all there can be", x.digest(), digestByHand(x));
    }
}
