/** Each promise of the document by itself, with answers worked out by hand. */
public final class PromisesTest {
    private static final int NONE = -1, BAD = -2, NO = -3, FULL = -4;
    private static final int BIG = Integer.MAX_VALUE, SMALL = Integer.MIN_VALUE;
    private static final int DOWN = 0, UP = 1, ECHO = 2, HALF = 3, SHUT = 4, OPEN = 5, CAP = 6, QUIET = 7;
    private static final int PENALTY = 0, IS_UP = 1, IS_SHUT = 2, SEEN = 3, FLIPS = 4, LOST = 5, KIND = 6, OPENS = 7,
        MARK = 8;

    private static int wrong = 0;
    private static int promise = 0;

    private static void due(String what, long got, long want) {
        if (got != want) {
            wrong++;
            System.out.println("promise " + promise + ": " + what + " answered " + got + ", due is " + want);
        }
    }

    public static void main(String[] args) {
        newObject();
        line();
        lineOfAGroup();
        rule();
        ruleKeepsPenalties();
        faded();
        change();
        changeShutsAndOpens();
        changeForgiven();
        changeRefused();
        echo();
        tick();
        about();
        aboutOpening();
        longest();
        event();
        again();
        againLaterLine();
        mark();
        marks();
        marksInConflict();
        way();
        bind();
        flood();
        floodOfWaysThatGo();
        floodWithFullLog();
        own();
        echoes();
        count();
        digest();
        System.out.println(wrong == 0 ? "all promises hold" : wrong + " answers are not as due");
        if (wrong != 0) {
            System.exit(1);
        }
    }

    private static CalmLines withLines(int... kinds) {
        CalmLines x = new CalmLines();
        for (int kind : kinds) {
            x.line(kind, 0);
        }
        return x;
    }

    private static void newObject() {
        promise = 1;
        due("NONE", CalmLines.NONE, NONE);
        due("BAD", CalmLines.BAD, BAD);
        due("NO", CalmLines.NO, NO);
        due("FULL", CalmLines.FULL, FULL);
        CalmLines x = new CalmLines();
        for (int what = 0; what <= 5; what++) {
            due("count", x.count(what), 0);
        }
        for (int house = 0; house < 5; house++) {
            due("own", x.own(house, 0), NONE);
            due("echoes", x.echoes(house), 0);
            for (int other = 0; other < 5; other++) {
                due("no way", x.way(house, other, false), house == other ? BAD : NO);
            }
        }
        due("no line", x.about(0, 0), BAD);
        due("no event", x.event(0, 0), NONE);
        int[] first = {1000, 0, 500, 60, 3000, 750, 12000, 120};
        for (int which = 0; which < 8; which++) {
            due("rule at first", x.rule(which, first[which]), first[which]);
        }
    }

    private static void line() {
        promise = 2;
        CalmLines x = new CalmLines();
        due("kind -1", x.line(-1, 0), BAD);
        due("kind 3", x.line(3, 0), BAD);
        due("kind big", x.line(BIG, 0), BAD);
        due("group -1", x.line(1, -1), BAD);
        due("group 4", x.line(1, 4), BAD);
        due("group small", x.line(1, SMALL), BAD);
        due("none came", x.count(0), 0);
        due("plain, any group", x.line(0, BIG), 0);
        due("forgiving, any group", x.line(2, -9), 1);
        due("shared 0", x.line(1, 0), 2);
        due("shared 3", x.line(1, 3), 3);
        for (int i = 4; i < 12; i++) {
            due("number", x.line(i % 3, 0), i);
        }
        due("full", x.line(0, 0), FULL);
        due("bad is told before full", x.line(3, 0), BAD);
        due("bad group is told before full", x.line(1, 4), BAD);
        due("twelve", x.count(0), 12);
        due("at first", x.about(0, IS_UP), 1);
        due("at first", x.about(0, SEEN), 1);
        due("at first", x.about(0, PENALTY), 0);
    }

    private static void lineOfAGroup() {
        promise = 2;
        CalmLines x = new CalmLines();
        x.line(1, 2);
        x.echo(0);
        x.tick(30);
        due("the group's penalty", x.about(x.line(1, 2), PENALTY), 375);
        due("another group's", x.about(x.line(1, 1), PENALTY), 0);
        due("a plain one's", x.about(x.line(0, 2), PENALTY), 0);
        x.rule(SHUT, 750);
        due("shut together", x.echo(1), 875);
        int late = x.line(1, 2);
        due("comes into a group that is shut", x.about(late, IS_SHUT), 1);
        due("is not seen", x.about(late, SEEN), 0);
        due("opens", x.tick(60), 90);
        due("open", x.about(late, SEEN), 1);
        due("was shut together, opened together", x.about(0, SEEN), 1);
        due("one flip", x.about(late, FLIPS), 1);
        due("two flips", x.about(0, FLIPS), 2);
        due("the other group", x.about(2, FLIPS), 0);
    }

    private static void rule() {
        promise = 3;
        int[] least = {0, 0, 0, 1, 1, 1, 1, 0};
        int[] most = {10000, 10000, 10000, 500, 20000, 20000, 100000, 1000};
        int[] first = {1000, 0, 500, 60, 3000, 750, 12000, 120};
        for (int which = 0; which < 8; which++) {
            CalmLines x = new CalmLines();
            due("too small", x.rule(which, least[which] - 1), BAD);
            due("too great", x.rule(which, most[which] + 1), BAD);
            int low = which == SHUT ? 750 : least[which];
            int high = which == OPEN ? 3000 : most[which];
            due("the least", x.rule(which, low), first[which]);
            due("the most", x.rule(which, high), low);
            due("what it was", x.rule(which, high), high);
        }
        CalmLines x = new CalmLines();
        due("which -1", x.rule(-1, 5), BAD);
        due("which 8", x.rule(8, 5), BAD);
        due("shut below open", x.rule(SHUT, 749), BAD);
        due("open above shut", x.rule(OPEN, 3001), BAD);
        due("alike", x.rule(OPEN, 3000), 750);
        due("now below", x.rule(SHUT, 2999), BAD);
        due("raised", x.rule(SHUT, 20000), 3000);
        due("alike at the top", x.rule(OPEN, 20000), 3000);
    }

    private static void ruleKeepsPenalties() {
        promise = 3;
        CalmLines x = withLines(0, 1, 0);
        x.change(0, false);
        x.change(1, false);
        x.tick(30);
        due("before", x.about(0, PENALTY), 750);
        x.rule(HALF, 10);
        due("stays", x.about(0, PENALTY), 750);
        due("of the group, too", x.about(1, PENALTY), 750);
        x.tick(10);
        due("fades from here", x.about(0, PENALTY), 375);
        due("of the group, too", x.about(1, PENALTY), 375);
        x = withLines(0);
        x.change(0, false);
        x.tick(30);
        x.rule(QUIET, 7);
        x.tick(30);
        due("any rule makes it what it is now", x.about(0, PENALTY), 563);
        due("refused", x.rule(HALF, 0), BAD);
        x.tick(30);
        due("a refused rule leaves it alone", x.about(0, PENALTY), 375);
        x = withLines(0);
        x.change(0, false);
        x.rule(CAP, 600);
        due("beyond CAP till the next event", x.about(0, PENALTY), 1000);
        due("CAP with the next event", x.change(0, true), 600);
    }

    private static void faded() {
        promise = 4;
        CalmLines x = new CalmLines();
        int[][] all = {{1000, 0, 1000}, {1000, 30, 750}, {1000, 59, 509}, {1000, 60, 500}, {1000, 61, 496},
            {7, 60, 3}, {7, 120, 1}, {7, 180, 0}, {1, 59, 1}, {1, 60, 0}, {0, 0, 0}, {100000, 0, 100000},
            {100000, 100000, 0}, {100000, 960, 1}, {100000, 1020, 0}, {100000, 1920, 0}};
        for (int[] one : all) {
            due("faded(" + one[0] + ", " + one[1] + ")", x.faded(one[0], one[1]), one[2]);
        }
        due("p -1", x.faded(-1, 0), BAD);
        due("p 100001", x.faded(100001, 0), BAD);
        due("d -1", x.faded(0, -1), BAD);
        due("d 100001", x.faded(0, 100001), BAD);
        due("small", x.faded(SMALL, SMALL), BAD);
        x.rule(HALF, 1);
        due("HALF 1", x.faded(1000, 3), 125);
        due("HALF 1, many", x.faded(100000, 100000), 0);
        due("HALF 1, 32", x.faded(100000, 32), 0);
        x.rule(HALF, 500);
        due("HALF 500", x.faded(100000, 499), 50100);
        due("HALF 500, two steps", x.faded(100000, 1000), 25000);
    }

    private static void change() {
        promise = 5;
        CalmLines x = withLines(0, 1, 1);
        due("it is so", x.change(0, true), NO);
        due("down", x.change(0, false), 1000);
        due("is down", x.about(0, IS_UP), 0);
        due("it is so", x.change(0, false), NO);
        x.tick(60);
        due("up has weight 0", x.change(0, true), 500);
        due("is up", x.about(0, IS_UP), 1);
        x.rule(UP, 40);
        x.rule(DOWN, 3);
        due("down, by its weight", x.change(0, false), 503);
        due("up, by its weight", x.change(0, true), 543);
        due("of a group", x.change(1, false), 3);
        due("the other one of it", x.change(2, false), 6);
        due("one penalty", x.about(1, PENALTY), 6);
        due("up again", x.change(2, true), 46);
        due("only that one", x.about(1, IS_UP), 0);
        x.tick(30);
        due("weight 0 holds the fading from anew", x.rule(UP, 0), 40);
        due("faded", x.change(1, true), 35);
        x.tick(30);
        due("from there", x.about(1, PENALTY), 27);
    }

    private static void changeShutsAndOpens() {
        promise = 5;
        CalmLines x = withLines(0);
        for (int i = 0; i < 3; i++) {
            x.change(0, false);
            x.change(0, true);
        }
        due("at SHUT, not above", x.about(0, IS_SHUT), 0);
        due("seen", x.about(0, SEEN), 1);
        due("flips", x.about(0, FLIPS), 6);
        due("above", x.change(0, false), 4000);
        due("shut", x.about(0, IS_SHUT), 1);
        due("flips", x.about(0, FLIPS), 7);
        due("up, but shut", x.change(0, true), 4000);
        due("not seen", x.about(0, SEEN), 0);
        due("no flip", x.about(0, FLIPS), 7);
        for (int i = 0; i < 12; i++) {
            x.change(0, false);
            x.change(0, true);
        }
        due("CAP", x.about(0, PENALTY), 12000);
        x = withLines(0);
        x.change(0, false);
        x.rule(SHUT, 800);
        due("a rule does not shut", x.about(0, IS_SHUT), 0);
        due("an event of weight 0 does", x.change(0, true), 1000);
        due("shut", x.about(0, IS_SHUT), 1);
        due("down to up and shut at once is no flip", x.about(0, FLIPS), 1);
    }

    private static void changeForgiven() {
        promise = 5;
        CalmLines x = withLines(2, 0);
        due("the first is forgiven", x.change(0, false), 0);
        due("not of a plain one", x.change(1, false), 1000);
        x.change(0, true);
        x.tick(120);
        due("an event QUIET ticks ago", x.change(0, false), 1000);
        x.change(0, true);
        x.tick(121);
        due("the events lie before QUIET: forgiven", x.change(0, false), 248);
        x.change(0, true);
        x.tick(121);
        x.echo(0);
        x.tick(1);
        due("an echo is an event, too", x.change(0, false), 1558);
        x.rule(QUIET, 0);
        x.change(0, true);
        due("QUIET 0, an event at this tick", x.change(0, false), 2558);
        x.change(0, true);
        x.tick(1);
        due("QUIET 0, one tick ago", x.change(0, false), 2537);
        x = withLines(2);
        x.rule(ECHO, 9);
        due("an echo is not forgiven", x.echo(0), 9);
        x = withLines(2);
        x.rule(UP, 9);
        x.change(0, false);
        x.tick(200);
        due("up is not forgiven", x.change(0, true), 9);
        x = new CalmLines();
        x.tick(3);
        x.line(2, 0);
        due("no event was ever", x.change(0, false), 0);
    }

    private static void changeRefused() {
        promise = 5;
        CalmLines x = withLines(0, 0);
        due("line -1", x.change(-1, false), BAD);
        due("line 2", x.change(2, false), BAD);
        due("line big", x.change(BIG, true), BAD);
        due("nothing was logged", x.count(1), 0);
        for (int i = 0; i < 300; i++) {
            x.change(0, i % 2 == 1);
        }
        due("300", x.count(1), 300);
        due("bad before full", x.change(2, false), BAD);
        due("no before full", x.change(0, true), NO);
        due("full", x.change(1, false), FULL);
        due("nothing is changed", x.about(1, IS_UP), 1);
        due("nothing is changed", x.about(1, PENALTY), 0);
        promise = 6;
        due("full", x.echo(1), FULL);
        due("bad before full", x.echo(2), BAD);
        due("nothing is changed", x.about(1, PENALTY), 0);
        due("300", x.count(1), 300);
    }

    private static void echo() {
        promise = 6;
        CalmLines x = withLines(0, 1, 1);
        due("line -1", x.echo(-1), BAD);
        due("line 3", x.echo(3), BAD);
        due("echo", x.echo(0), 500);
        due("still up", x.about(0, IS_UP), 1);
        due("no flip", x.about(0, FLIPS), 0);
        x.tick(30);
        due("echo", x.echo(0), 875);
        due("of a group", x.echo(1), 500);
        due("the other of it", x.echo(2), 1000);
        x.rule(ECHO, 10000);
        due("its weight, CAP at most", x.echo(0), 10875);
        due("its weight, CAP at most", x.echo(0), 12000);
        due("shut", x.about(0, IS_SHUT), 1);
        due("flip", x.about(0, FLIPS), 1);
        due("a group is shut", x.echo(2), 11000);
        due("together", x.about(1, IS_SHUT), 1);
        due("flip of both", x.about(1, FLIPS), 1);
        due("flip of both", x.about(2, FLIPS), 1);
        due("logged", x.count(1), 7);
    }

    private static void tick() {
        promise = 7;
        CalmLines x = new CalmLines();
        due("0", x.tick(0), BAD);
        due("-1", x.tick(-1), BAD);
        due("201", x.tick(201), BAD);
        due("big", x.tick(BIG), BAD);
        due("1", x.tick(1), 1);
        for (int i = 1; i < 10; i++) {
            due("200", x.tick(200), 1 + 200 * i);
        }
        due("beyond", x.tick(200), FULL);
        due("bad before full", x.tick(201), BAD);
        due("nothing is changed", x.count(2), 1801);
        due("to the last", x.tick(199), 2000);
        due("beyond", x.tick(1), FULL);
        x = withLines(0, 0);
        x.rule(HALF, 10);
        x.rule(SHUT, 900);
        x.rule(OPEN, 500);
        x.change(0, false);
        x.change(0, true);
        x.change(1, false);
        due("shut, both", x.count(3), 2);
        due("to OPEN, not less", x.tick(10), 10);
        due("still shut", x.about(0, IS_SHUT), 1);
        due("lost", x.about(0, LOST), 10);
        due("down: nothing is lost", x.about(1, LOST), 0);
        x.tick(1);
        due("open", x.about(0, IS_SHUT), 0);
        due("not lost behind opening", x.about(0, LOST), 10);
        due("flips", x.about(0, FLIPS), 2);
        due("down: no flip by opening", x.about(1, FLIPS), 1);
        due("down: open", x.about(1, IS_SHUT), 0);
        x.change(0, false);
        x.tick(200);
        due("flips, all in one call", x.about(0, FLIPS), 3);
        x.change(0, true);
        x.echo(0);
        x.echo(0);
        x.tick(200);
        due("shut and opened in one call", x.about(0, FLIPS), 6);
        due("lost in one call", x.about(0, LOST), 20);
    }

    private static void about() {
        promise = 8;
        CalmLines x = withLines(0, 1, 2);
        due("line -1", x.about(-1, 0), BAD);
        due("line 3", x.about(3, 0), BAD);
        due("what -1", x.about(0, -1), BAD);
        due("what 9", x.about(0, 9), BAD);
        due("what big", x.about(0, BIG), BAD);
        for (int i = 0; i < 3; i++) {
            due("kind", x.about(i, KIND), i);
        }
        x.mark(1, 2);
        due("mark", x.about(1, MARK), 2);
        due("no mark", x.about(0, MARK), 0);
        x.rule(DOWN, 4000);
        x.change(0, false);
        int[] down = {4000, 0, 1, 0, 1, 0, 0, 151, 0};
        for (int what = 0; what < down.length; what++) {
            due("down, what " + what, x.about(0, what), down[what]);
        }
        x.tick(20);
        x.change(0, true);
        x.tick(10);
        int[] up = {3057, 1, 1, 0, 1, 10, 0, 123, 0};
        for (int what = 0; what < up.length; what++) {
            due("up, what " + what, x.about(0, what), up[what]);
        }
        for (int what = 0; what < up.length; what++) {
            due("reading changes nothing", x.about(0, what), up[what]);
        }
    }

    private static void aboutOpening() {
        promise = 8;
        CalmLines x = withLines(0, 1, 1);
        due("not shut", x.about(0, OPENS), 0);
        x.rule(ECHO, 3001);
        x.echo(0);
        x.echo(1);
        int[] ticks = {1, 7, 60, 40, 5};
        for (int n : ticks) {
            int before = x.about(0, OPENS);
            x.tick(n);
            due("nearer", x.about(0, OPENS), before - n);
            due("of a group", x.about(2, OPENS), before - n);
        }
        int left = x.about(0, OPENS);
        x.tick(left - 1);
        due("still shut", x.about(0, IS_SHUT), 1);
        due("one left", x.about(0, OPENS), 1);
        x.tick(1);
        due("open", x.about(0, IS_SHUT), 0);
        due("open", x.about(0, OPENS), 0);
        x.rule(DOWN, 10000);
        x.change(0, false);
        x.rule(SHUT, 20000);
        x.rule(OPEN, 20000);
        due("below OPEN by a rule, but still shut", x.about(0, IS_SHUT), 1);
        due("opens with the next tick", x.about(0, OPENS), 1);
        x.tick(1);
        due("open", x.about(0, IS_SHUT), 0);
        x = withLines(0);
        x.rule(HALF, 500);
        x.rule(CAP, 100000);
        x.rule(OPEN, 1);
        x.rule(DOWN, 10000);
        x.change(0, false);
        due("beyond the last tick: when it is 0", x.about(0, OPENS), 7000);
    }

    private static void longest() {
        promise = 9;
        CalmLines x = new CalmLines();
        due("at first", x.longest(), 241);
        x.rule(HALF, 1);
        due("HALF 1", x.longest(), 5);
        x.rule(HALF, 500);
        x.rule(CAP, 100000);
        x.rule(OPEN, 1);
        due("the longest of all", x.longest(), 8500);
        x.rule(CAP, 1);
        due("1 till 0", x.longest(), 500);
        x.rule(OPEN, 2);
        due("CAP below OPEN", x.longest(), 0);
        x.rule(CAP, 2);
        due("CAP is OPEN: 2 less 2 * 500 / 1000 never comes before", x.longest(), 500);
        x.rule(HALF, 10);
        x.rule(CAP, 1000);
        x.rule(OPEN, 800);
        due("1000 less 1000 * 5 / 20 is 750", x.longest(), 5);
        x.rule(OPEN, 751);
        due("750 is below 751", x.longest(), 5);
        x.rule(OPEN, 750);
        due("750 is not below 750", x.longest(), 6);
    }

    private static void event() {
        promise = 10;
        CalmLines x = withLines(0, 0);
        x.change(1, false);
        x.tick(5);
        x.echo(0);
        x.change(1, true);
        int[][] all = {{1, 0, 0}, {0, 2, 5}, {1, 1, 5}};
        for (int i = 0; i < 3; i++) {
            for (int what = 0; what < 3; what++) {
                due("event(" + i + ", " + what + ")", x.event(i, what), all[i][what]);
            }
        }
        due("not so many", x.event(3, 0), NONE);
        due("never so many", x.event(300, 2), NONE);
        due("big", x.event(BIG, 1), NONE);
        due("i -1", x.event(-1, 0), BAD);
        due("what 3", x.event(0, 3), BAD);
        due("what -1", x.event(0, -1), BAD);
        due("bad before none", x.event(3, 3), BAD);
    }

    private static void again() {
        promise = 11;
        CalmLines x = withLines(0, 1, 1, 2);
        x.rule(HALF, 10);
        x.change(0, false);
        x.change(0, true);
        x.change(1, false);
        x.change(3, false);
        x.tick(30);
        due("as it was: flips", x.again(0, 3000, 750, 0), x.about(0, FLIPS));
        due("shut by 1000 above 900: flips", x.again(0, 900, 500, 0), 2);
        due("to 11, when it is below 500", x.again(0, 900, 500, 1), 10);
        due("not shut by 1000 above 1000", x.again(0, 1000, 500, 1), 0);
        due("not shut: flips", x.again(0, 1000, 500, 0), 2);
        due("never opens", x.again(0, 900, 1, 1), 30);
        due("never opens: flips", x.again(0, 900, 1, 0), 1);
        due("of the group: shut together", x.again(2, 900, 500, 1), 10);
        due("of the group: flips", x.again(2, 900, 500, 0), 2);
        due("forgiven", x.again(3, 900, 500, 0), 1);
        x.rule(HALF, 20);
        due("by the rules of now", x.again(0, 900, 500, 1), 20);
        x.rule(DOWN, 800);
        due("by the rules of now: weights", x.again(0, 900, 500, 1), 0);
        due("nothing is changed", x.about(0, LOST), 0);
        due("line -1", x.again(-1, 900, 500, 0), BAD);
        due("line 4", x.again(4, 900, 500, 0), BAD);
        due("shut 0", x.again(0, 0, 0, 0), BAD);
        due("open 0", x.again(0, 900, 0, 0), BAD);
        due("shut 20001", x.again(0, 20001, 1, 0), BAD);
        due("open 20001", x.again(0, 20000, 20001, 0), BAD);
        due("open above shut", x.again(0, 900, 901, 0), BAD);
        due("what 2", x.again(0, 900, 500, 2), BAD);
        due("what -1", x.again(0, 900, 500, -1), BAD);
        due("the least", x.again(0, 1, 1, 0), 1);
        due("the most", x.again(0, 20000, 20000, 0), 2);
    }

    private static void againLaterLine() {
        promise = 11;
        CalmLines x = new CalmLines();
        x.line(1, 0);
        x.rule(HALF, 10);
        x.change(0, false);
        x.tick(20);
        x.line(1, 0);
        due("not there yet", x.about(1, LOST), 0);
        due("there from the beginning", x.again(1, 900, 500, 1), 10);
        due("there from the beginning: flips", x.again(1, 900, 500, 0), 2);
        x.change(0, true);
        x.change(0, false);
        due("events of the tick that is", x.again(1, 900, 500, 0), 3);
        due("those are not lost yet", x.again(1, 900, 500, 1), 10);
        x.tick(1);
        due("a tick later", x.again(1, 900, 500, 1), 11);
    }

    private static void mark() {
        promise = 12;
        CalmLines x = withLines(0, 0);
        due("was not", x.mark(0, 1), 0);
        due("was TRUE", x.mark(0, 2), 1);
        due("was FLUTTER", x.mark(0, 0), 2);
        due("the other one", x.mark(1, 0), 0);
        due("line -1", x.mark(-1, 0), BAD);
        due("line 2", x.mark(2, 0), BAD);
        due("m -1", x.mark(0, -1), BAD);
        due("m 3", x.mark(0, 3), BAD);
        due("nothing is changed", x.about(0, MARK), 0);
    }

    private static void marks() {
        promise = 13;
        CalmLines x = withLines(0, 0);
        due("n -1", x.marks(-1), BAD);
        due("n 101", x.marks(101), BAD);
        due("bad before no", x.marks(BIG), BAD);
        due("no line is marked", x.marks(0), NO);
        x.mark(0, 1);
        due("nothing happened", x.marks(0), 50000250);
        x.mark(0, 0);
        due("not marked any more", x.marks(100), NO);
        x.mark(0, 1);
        x.rule(DOWN, 1000);
        x.change(0, false);
        x.change(0, true);
        due("nothing is lost before a tick", x.marks(100), 50000250);
        x.tick(1);
        due("992 is less than 1000: opens at once", x.marks(100), 100000250);
        x.rule(DOWN, 990);
        due("983 is lost by 500, whatever OPEN is", x.marks(100), 100000250);
        x.rule(HALF, 1);
        due("495 is below 500", x.marks(100), 50000500);
        x = withLines(0);
        x.rule(HALF, 500);
        for (int i = 0; i < 6; i++) {
            x.change(0, false);
            x.change(0, true);
            x.tick(1);
        }
        x.mark(0, 2);
        due("shut with the first, never open", x.marks(1), 50000250);
        due("no marks hold back the first", x.marks(0), -1000);
        x.mark(0, 1);
        due("6000 less what faded is more than 5500", x.marks(0), 600000250);
        x = withLines(0);
        x.rule(DOWN, 10000);
        x.mark(0, 1);
        x.change(0, false);
        x.change(0, true);
        x.tick(1);
        due("9917 is below 10000, but that is not above 10000", x.marks(0), 1000000250);
        x.rule(UP, 1);
        due("10001, and 9918 is below 10000", x.marks(0), 1000010000);
    }

    private static void marksInConflict() {
        promise = 13;
        CalmLines x = withLines(0, 0, 0, 0);
        x.rule(HALF, 500);
        x.rule(UP, 10000);
        x.mark(3, 1);
        x.change(3, false);
        x.change(3, true);
        x.tick(1);
        due("no marks let line 3 through", x.marks(0), -1000 - 3 * 17);
        x.mark(2, 2);
        x.change(2, false);
        due("line 2 is the first", x.marks(0), -1000 - 2 * 17);
        due("line 2 has some", x.marks(1), -1000 - 3 * 17);
        x = withLines(0, 0, 0, 0);
        x.rule(HALF, 500);
        for (int i = 0; i < 4; i++) {
            x.change(1, false);
            x.change(1, true);
            x.change(3, false);
            x.change(3, true);
            x.tick(1);
        }
        x.mark(0, 2);
        x.mark(1, 2);
        x.mark(2, 1);
        x.mark(3, 1);
        due("line 3 wants SHUT of 4000, line 1 less", x.marks(2), -1000 - (3 * 16 + 1));
        due("enough flips for both", x.marks(8), 400000250);
        x.mark(1, 1);
        due("both are TRUE", x.marks(2), 400000250);
        x.mark(1, 2);
        x.mark(3, 2);
        due("both are FLUTTER", x.marks(2), 50000250);
        noneTold();
    }

    /** Two FLUTTER lines with marks of their own, none in common, and no TRUE one. */
    private static void noneTold() {
        CalmLines x = withLines(0, 0);
        x.mark(0, 2);
        x.mark(1, 2);
        x.rule(HALF, 1);
        x.rule(DOWN, 0);
        x.rule(ECHO, 600);
        for (int i = 0; i < 4; i++) {
            x.echo(0);
            x.tick(4);
        }
        for (int i = 0; i < 2; i++) {
            x.change(1, false);
            x.change(1, true);
        }
        due("line 0 wants SHUT above 500", x.marks(4), 100000250);
        x.rule(UP, 600);
        due("line 1 wants SHUT 500", x.marks(2), -999);
        x.mark(0, 1);
        due("line 0, were it TRUE, opens with the next tick", x.marks(2), 50000500);
    }

    private static void way() {
        promise = 14;
        CalmLines x = new CalmLines();
        due("a -1", x.way(-1, 0, true), BAD);
        due("b 5", x.way(0, 5, true), BAD);
        due("alike", x.way(2, 2, true), BAD);
        due("alike", x.way(0, 0, false), BAD);
        due("there is none", x.way(3, 4, false), NO);
        due("a way", x.way(3, 4, true), 1);
        due("it is so", x.way(3, 4, true), NO);
        due("it is so from there, too", x.way(4, 3, true), NO);
        due("one", x.count(4), 1);
        due("none any more", x.way(4, 3, false), 1);
        due("none", x.count(4), 0);
        x.way(0, 1, true);
        due("nothing is sent", x.own(1, 0), NONE);
        due("nothing came", x.count(5), 0);
        x.flood(false);
        x.way(0, 1, false);
        due("own is found by flood alone", x.own(1, 1), 0);
        x.way(0, 1, true);
        due("what was told is none; 0 has nothing new to send", x.flood(false), 1);
        due("none", x.own(1, 0), NONE);
    }

    private static void bind() {
        promise = 15;
        CalmLines x = withLines(0, 0);
        due("line -1", x.bind(-1, 1, 0), BAD);
        due("line 2", x.bind(2, 1, 0), BAD);
        due("house 0", x.bind(0, 0, 1), BAD);
        due("house 5", x.bind(0, 5, 1), BAD);
        due("neighbour -1", x.bind(0, 1, -1), BAD);
        due("neighbour 5", x.bind(0, 1, 5), BAD);
        due("not its own neighbour", x.bind(0, 1, 1), BAD);
        due("bound", x.bind(0, 1, 0), 1);
        due("no way is needed", x.bind(0, 4, 3), 1);
        due("bound to two", x.bind(0, 2, 0), 1);
        x.way(0, 1, true);
        x.way(0, 2, true);
        x.flood(false);
        due("both", x.about(0, PENALTY), 1000);
        due("a later one takes its place", x.bind(1, 1, 0), 1);
        x.flood(true);
        due("one is left", x.about(0, PENALTY), 1500);
        due("one took its place", x.about(1, PENALTY), 500);
    }

    private static void dueRow(CalmLines x, int house, int... row) {
        for (int k = 0; k < row.length; k++) {
            due("own(" + house + ", " + k + ")", x.own(house, k), row[k]);
        }
        due("own(" + house + ") ends", x.own(house, row.length), NONE);
    }

    private static void flood() {
        promise = 16;
        CalmLines x = new CalmLines();
        due("0 was CUT from the beginning", x.flood(true), 0);
        due("nobody to be told", x.flood(false), 0);
        dueRow(x, 0, 0);
        x = new CalmLines();
        x.way(0, 1, true);
        x.way(1, 2, true);
        x.way(2, 3, true);
        // 0 to 1; 1 to 0 and 2; 2 to 1 and 3; 3 to 2
        due("a chain", x.flood(false), 6);
        dueRow(x, 3, 3, 2, 1, 0);
        dueRow(x, 4);
        due("nothing is new", x.flood(false), 0);
        // none goes the same way; what 2 told holds 1, what 3 told holds 2
        due("cut", x.flood(true), 6);
        for (int house = 0; house < 5; house++) {
            dueRow(x, house);
        }
        x = new CalmLines();
        x.way(0, 2, true);
        x.way(0, 1, true);
        x.way(1, 3, true);
        x.way(2, 3, true);
        x.way(3, 4, true);
        x.flood(false);
        dueRow(x, 4, 4, 3, 1, 0);
        x.way(0, 1, false);
        x.flood(false);
        dueRow(x, 4, 4, 3, 2, 0);
        dueRow(x, 1, 1, 3, 2, 0);
        x = new CalmLines();
        x.way(0, 4, true);
        x.way(0, 2, true);
        x.way(2, 1, true);
        x.way(1, 3, true);
        x.way(4, 3, true);
        x.flood(false);
        dueRow(x, 3, 3, 4, 0);
        x.way(0, 4, false);
        x.flood(false);
        dueRow(x, 3, 3, 1, 2, 0);
        dueRow(x, 4, 4, 3, 1, 2, 0);
    }

    private static void floodOfWaysThatGo() {
        promise = 16;
        CalmLines x = withLines(0);
        x.way(0, 1, true);
        x.way(0, 2, true);
        x.way(1, 2, true);
        x.bind(0, 2, 1);
        // 0 to 1 and 2; 1 to 0 and 2; 2 to 0 and 1
        due("a ring", x.flood(false), 6);
        due("one echo", x.count(1), 1);
        due("by 2 of 1", x.event(0, 1), 2);
        x.tick(4);
        // 1: [1 2 0], 2: [2 1 0] as what was told before; then none of both
        due("cut: a way round is tried", x.flood(true), 10);
        dueRow(x, 1);
        dueRow(x, 2);
        due("echoes at the tick that is", x.event(1, 2), 4);
        due("three in all", x.count(1), 3);
        due("500 faded to 484, and 1000", x.about(0, PENALTY), 1484);
    }

    private static void floodWithFullLog() {
        promise = 16;
        CalmLines x = withLines(0, 0);
        for (int i = 0; i < 299; i++) {
            x.echo(0);
        }
        x.way(0, 1, true);
        x.way(0, 2, true);
        x.bind(1, 1, 0);
        x.bind(1, 2, 0);
        due("one fits, one is left out", x.flood(false), FULL);
        due("one", x.count(1), 300);
        due("one", x.about(1, PENALTY), 500);
        dueRow(x, 2, 2, 0);
        due("all else is done", x.count(5), 4);
        due("an echo all the same", x.echoes(2), 1);
        due("no event, nothing is left out", x.flood(false), 0);
        x.way(0, 1, false);
        x.way(0, 2, false);
        x.way(0, 3, true);
        due("not bound, nothing is left out", x.flood(true), 1);
    }

    private static void own() {
        promise = 17;
        CalmLines x = new CalmLines();
        due("house -1", x.own(-1, 0), BAD);
        due("house 5", x.own(5, 0), BAD);
        due("k -1", x.own(0, -1), BAD);
        due("k small", x.own(0, SMALL), BAD);
        for (int i = 0; i < 4; i++) {
            x.way(i, i + 1, true);
        }
        x.flood(false);
        dueRow(x, 0, 0);
        dueRow(x, 4, 4, 3, 2, 1, 0);
        due("k 11", x.own(4, 11), NONE);
        due("k big", x.own(4, BIG), NONE);
    }

    private static void echoes() {
        promise = 18;
        CalmLines x = new CalmLines();
        due("house -1", x.echoes(-1), BAD);
        due("house 5", x.echoes(5), BAD);
        x.way(0, 1, true);
        x.way(1, 2, true);
        x.flood(false);
        int[] chain = {1, 2, 1, 0, 0};
        for (int house = 0; house < 5; house++) {
            due("of house " + house, x.echoes(house), chain[house]);
        }
        x.flood(false);
        for (int house = 0; house < 5; house++) {
            due("none in the latest", x.echoes(house), 0);
        }
        x.way(0, 1, false);
        x.way(0, 1, true);
        x.flood(false);
        int[] none = {0, 1, 1, 0, 0};
        for (int house = 0; house < 5; house++) {
            due("none told to one who had none is no echo, house " + house, x.echoes(house), none[house]);
        }
    }

    private static void count() {
        promise = 19;
        CalmLines x = withLines(0, 1, 1, 0);
        due("what -1", x.count(-1), BAD);
        due("what 6", x.count(6), BAD);
        x.rule(ECHO, 3001);
        x.echo(1);
        x.echo(0);
        x.tick(7);
        x.way(0, 3, true);
        x.way(3, 4, true);
        x.flood(false);
        x.flood(true);
        int[] all = {4, 2, 7, 3, 2, 8};
        for (int what = 0; what < all.length; what++) {
            due("count(" + what + ")", x.count(what), all[what]);
        }
    }

    private static void digest() {
        promise = 20;
        CalmLines x = new CalmLines();
        due("of a new one", x.digest(), over(0, 0, 0, 0, 0, 0, 9, 9, 9, 9, 9));
        x.line(0, 0);
        x.line(2, 0);
        x.mark(1, 2);
        x.tick(3);
        x.rule(ECHO, 4000);
        x.echo(0);
        x.change(1, false);
        x.way(0, 2, true);
        x.way(2, 1, true);
        x.flood(false);
        long want = over(2, 2, 3, 1, 2, 4,
            4000, 1, 1, 0, 1, 0, 0, 151, 0,
            0, 0, 0, 0, 1, 0, 2, 0, 2,
            0, 2, 3, 1, 0, 3,
            0, 9, 1, 2, 0, 9, 2, 0, 9, 9, 9);
        due("of all", x.digest(), want);
        due("nothing is changed", x.digest(), want);
    }

    private static long over(int... numbers) {
        long h = 137;
        for (int v : numbers) {
            h = 31 * h + v;
        }
        return h;
    }
}
