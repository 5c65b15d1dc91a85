/**
 * Restless lines made calm: penalties that fade, a log gone over again by other
 * rules, and a net of houses whose letters are echoes on the lines.
 *
 * Every call checks its numbers first and is refused with BAD, NO or FULL
 * (in this order) before anything is changed.
 */
public final class CalmLines {
    public static final int NONE = -1, BAD = -2, NO = -3, FULL = -4;

    private static final int MOST_LINES = 12;
    private static final int GROUPS = 4;
    private static final int MOST_EVENTS = 300;
    private static final int MOST_TICKS_A_CALL = 200;
    private static final int LAST_TICK = 2000;
    private static final int MOST_TO_FADE = 100000;
    private static final int MOST_FLIPS_ASKED = 100;

    private static final int PLAIN = 0, SHARED = 1, FORGIVING = 2;
    private static final int WENT_DOWN = 0, WENT_UP = 1, ECHOED = 2;
    private static final int UNMARKED = 0, TRUE_LINE = 1, FLUTTER_LINE = 2;

    private final Rules rules;
    private final Roster roster;
    private final Log log;
    private final Board board;
    private final Replay replay;
    private final Net net;
    private int now;

    public CalmLines() {
        rules = new Rules();
        roster = new Roster();
        log = new Log();
        board = new Board(rules, roster);
        replay = new Replay(rules, roster, log);
        net = new Net();
        now = 0;
    }

    public int line(int kind, int group) {
        if (kind < PLAIN || kind > FORGIVING) {
            return BAD;
        }
        if (kind == SHARED && (group < 0 || group >= GROUPS)) {
            return BAD;
        }
        if (roster.isFull()) {
            return FULL;
        }
        int number = roster.enter(kind, group);
        board.join(number);
        return number;
    }

    public int rule(int which, int v) {
        if (!rules.admits(which, v)) {
            return BAD;
        }
        int before = rules.get(which);
        board.restPenalties(now);
        rules.put(which, v);
        return before;
    }

    public int faded(int p, int d) {
        if (p < 0 || p > MOST_TO_FADE || d < 0 || d > MOST_TO_FADE) {
            return BAD;
        }
        return rules.fade(p, d);
    }

    public int change(int line, boolean up) {
        if (!roster.has(line)) {
            return BAD;
        }
        if (board.isUp(line) == up) {
            return NO;
        }
        return penaltyAfter(line, up ? WENT_UP : WENT_DOWN);
    }

    public int echo(int line) {
        if (!roster.has(line)) {
            return BAD;
        }
        return penaltyAfter(line, ECHOED);
    }

    private int penaltyAfter(int line, int what) {
        return happen(line, what) ? board.penaltyOf(line, now) : FULL;
    }

    /** False, with nothing done, if the log has no room for the event. */
    private boolean happen(int line, int what) {
        if (log.isFull()) {
            return false;
        }
        log.write(line, what, now);
        board.take(line, what, now);
        return true;
    }

    public int tick(int n) {
        if (n < 1 || n > MOST_TICKS_A_CALL) {
            return BAD;
        }
        if (now + n > LAST_TICK) {
            return FULL;
        }
        now += n;
        board.settleAll(now);
        return now;
    }

    public int about(int line, int what) {
        if (!roster.has(line)) {
            return BAD;
        }
        switch (what) {
            case 0: return board.penaltyOf(line, now);
            case 1: return asNumber(board.isUp(line));
            case 2: return asNumber(board.isShut(line));
            case 3: return asNumber(board.isSeen(line));
            case 4: return board.flipsOf(line);
            case 5: return board.lostOf(line);
            case 6: return roster.kindOf(line);
            case 7: return board.ticksTillOpen(line, now);
            case 8: return roster.markOf(line);
            default: return BAD;
        }
    }

    private static int asNumber(boolean holds) {
        return holds ? 1 : 0;
    }

    public int longest() {
        return rules.ticksTillBelow(rules.get(Rules.CAP), rules.get(Rules.OPEN));
    }

    public int event(int i, int what) {
        if (i < 0 || what < 0 || what > 2) {
            return BAD;
        }
        if (i >= log.size()) {
            return NONE;
        }
        switch (what) {
            case 0: return log.lineAt(i);
            case 1: return log.whatAt(i);
            default: return log.tickAt(i);
        }
    }

    public int again(int line, int shut, int open, int what) {
        if (!roster.has(line) || !Rules.areMarks(shut, open) || what < 0 || what > 1) {
            return BAD;
        }
        replay.goOver(shut, open, now);
        return what == 0 ? replay.flipsOf(line) : replay.lostOf(line);
    }

    public int mark(int line, int m) {
        if (!roster.has(line) || m < UNMARKED || m > FLUTTER_LINE) {
            return BAD;
        }
        return roster.putMark(line, m);
    }

    public int marks(int n) {
        if (n < 0 || n > MOST_FLIPS_ASKED) {
            return BAD;
        }
        if (roster.markedLines() == 0) {
            return NO;
        }
        return replay.findMarks(n, now);
    }

    public int way(int a, int b, boolean there) {
        if (!Net.isHouse(a) || !Net.isHouse(b) || a == b) {
            return BAD;
        }
        if (net.hasWay(a, b) == there) {
            return NO;
        }
        net.putWay(a, b, there);
        return 1;
    }

    public int bind(int line, int house, int neighbour) {
        if (!roster.has(line) || !Net.isHouse(house) || house == Net.GOAL) {
            return BAD;
        }
        if (!Net.isHouse(neighbour) || neighbour == house) {
            return BAD;
        }
        net.putBound(house, neighbour, line);
        return 1;
    }

    public int flood(boolean cut) {
        boolean leftOut = false;
        int came = 0;
        net.startFlood(cut);
        while (came < Net.MOST_LETTERS && net.hasLetter()) {
            int line = net.takeLetter();
            if (line != NONE && !happen(line, ECHOED)) {
                leftOut = true;
            }
            came++;
        }
        return leftOut ? FULL : came;
    }

    public int own(int house, int k) {
        if (!Net.isHouse(house) || k < 0) {
            return BAD;
        }
        return net.ownAt(house, k);
    }

    public int echoes(int house) {
        if (!Net.isHouse(house)) {
            return BAD;
        }
        return net.echoesOf(house);
    }

    public int count(int what) {
        switch (what) {
            case 0: return roster.size();
            case 1: return log.size();
            case 2: return now;
            case 3: return board.shutLines();
            case 4: return net.ways();
            case 5: return net.lettersOfAll();
            default: return BAD;
        }
    }

    public long digest() {
        long h = 137;
        for (int what = 0; what <= 5; what++) {
            h = 31 * h + count(what);
        }
        for (int i = 0; i < roster.size(); i++) {
            for (int what = 0; what <= 8; what++) {
                h = 31 * h + about(i, what);
            }
        }
        for (int i = 0; i < log.size(); i++) {
            for (int what = 0; what <= 2; what++) {
                h = 31 * h + event(i, what);
            }
        }
        for (int house = 0; house < Net.HOUSES; house++) {
            for (int k = 0; k < Net.HOUSES && net.ownAt(house, k) != NONE; k++) {
                h = 31 * h + net.ownAt(house, k);
            }
            h = 31 * h + 9;
        }
        return h;
    }

    /** The eight rules, and how a penalty fades by them. */
    private static final class Rules {
        static final int HALF = 3, SHUT = 4, OPEN = 5, CAP = 6, QUIET = 7;

        private static final int[] FIRST = {1000, 0, 500, 60, 3000, 750, 12000, 120};
        private static final int[] LEAST = {0, 0, 0, 1, 1, 1, 1, 0};
        private static final int[] MOST = {10000, 10000, 10000, 500, 20000, 20000, 100000, 1000};
        /** No penalty has more bits than this. */
        private static final int MOST_HALVINGS = 30;

        private final int[] values = FIRST.clone();

        int get(int which) {
            return values[which];
        }

        boolean admits(int which, int v) {
            if (which < 0 || which >= values.length || v < LEAST[which] || v > MOST[which]) {
                return false;
            }
            if (which == SHUT) {
                return values[OPEN] <= v;
            }
            return which != OPEN || v <= values[SHUT];
        }

        static boolean areMarks(int shut, int open) {
            return shut >= LEAST[SHUT] && shut <= MOST[SHUT] && open >= LEAST[OPEN] && open <= shut;
        }

        void put(int which, int v) {
            values[which] = v;
        }

        void copyWithMarks(Rules from, int shut, int open) {
            System.arraycopy(from.values, 0, values, 0, values.length);
            values[SHUT] = shut;
            values[OPEN] = open;
        }

        int fade(int p, int d) {
            int half = Math.max(1, values[HALF]);
            int halvings = d / half;
            if (halvings > MOST_HALVINGS) {
                return 0;
            }
            int left = p >> halvings;
            return left - left * (d % half) / (2 * half);
        }

        /**
         * The least d for which p faded by d is below the mark. Fading never rises,
         * so that one HALF holds d, and there a division tells it without trying each.
         */
        int ticksTillBelow(int p, int mark) {
            if (p < mark) {
                return 0;
            }
            int half = values[HALF];
            int left = p;
            int whole = 0;
            for (int i = 0; i < MOST_HALVINGS && left / 2 >= mark; i++) {
                left /= 2;
                whole += half;
            }
            int lessNeeded = left - mark + 1;
            int divisor = Math.max(1, left);
            int rest = (lessNeeded * 2 * half + divisor - 1) / divisor;
            return whole + Math.min(half, rest);
        }
    }

    /** Which lines there are, of what kind, how marked, and where their penalty stands. */
    private static final class Roster {
        /** A penalty slot for each line that bears its own, and behind them one for each group. */
        static final int SLOTS = MOST_LINES + GROUPS;

        private final int[] kinds = new int[MOST_LINES];
        private final int[] slots = new int[MOST_LINES];
        private final int[] lineMarks = new int[MOST_LINES];
        private int size = 0;

        int size() {
            return size;
        }

        boolean isFull() {
            return size >= MOST_LINES;
        }

        boolean has(int number) {
            return number >= 0 && number < size;
        }

        int enter(int kind, int group) {
            int number = size;
            kinds[number] = kind;
            slots[number] = kind == SHARED ? MOST_LINES + group : number;
            size++;
            return number;
        }

        int kindOf(int number) {
            return kinds[number];
        }

        int slotOf(int number) {
            return slots[number];
        }

        int markOf(int number) {
            return lineMarks[number];
        }

        int putMark(int number, int m) {
            int before = lineMarks[number];
            lineMarks[number] = m;
            return before;
        }

        /** A bit for each line that is marked. */
        int markedLines() {
            int bits = 0;
            for (int i = 0; i < size; i++) {
                if (lineMarks[i] != UNMARKED) {
                    bits |= 1 << i;
                }
            }
            return bits;
        }
    }

    /** All events, as they came. */
    private static final class Log {
        private final int[] lines = new int[MOST_EVENTS];
        private final int[] whats = new int[MOST_EVENTS];
        private final int[] ticks = new int[MOST_EVENTS];
        private int size = 0;

        int size() {
            return size;
        }

        boolean isFull() {
            return size >= MOST_EVENTS;
        }

        void write(int number, int what, int at) {
            lines[size] = number;
            whats[size] = what;
            ticks[size] = at;
            size++;
        }

        int lineAt(int i) {
            return lines[i];
        }

        int whatAt(int i) {
            return whats[i];
        }

        int tickAt(int i) {
            return ticks[i];
        }
    }

    /**
     * The state of all lines by some rules. Each slot is brought up to a tick by
     * itself, in one step: a slot that is shut opens at a tick that can be told
     * beforehand, so no tick has to be gone through alone.
     */
    private static final class Board {
        /** Before any tick that QUIET can reach back to. */
        private static final int NEVER = -1000000;

        private final Rules rules;
        private final Roster roster;
        private final int[] penalty = new int[Roster.SLOTS];
        private final int[] since = new int[Roster.SLOTS];
        private final int[] settled = new int[Roster.SLOTS];
        private final boolean[] shut = new boolean[Roster.SLOTS];
        private final boolean[] up = new boolean[MOST_LINES];
        private final boolean[] seen = new boolean[MOST_LINES];
        private final int[] flips = new int[MOST_LINES];
        private final int[] lost = new int[MOST_LINES];
        private final int[] lastEvent = new int[MOST_LINES];
        private boolean everShut;

        Board(Rules rules, Roster roster) {
            this.rules = rules;
            this.roster = roster;
            restart();
        }

        /** All lines, also those to come, as at first. */
        void restart() {
            everShut = false;
            for (int slot = 0; slot < Roster.SLOTS; slot++) {
                penalty[slot] = 0;
                since[slot] = 0;
                settled[slot] = 0;
                shut[slot] = false;
            }
            for (int i = 0; i < MOST_LINES; i++) {
                up[i] = true;
                seen[i] = true;
                flips[i] = 0;
                lost[i] = 0;
                lastEvent[i] = NEVER;
            }
        }

        /** A line that comes into a group that is shut is not seen from its beginning: no flip. */
        void join(int number) {
            seen[number] = isSeen(number);
        }

        boolean isUp(int number) {
            return up[number];
        }

        boolean isShut(int number) {
            return shut[roster.slotOf(number)];
        }

        boolean isSeen(int number) {
            return up[number] && !isShut(number);
        }

        int flipsOf(int number) {
            return flips[number];
        }

        int lostOf(int number) {
            return lost[number];
        }

        boolean wasEverShut() {
            return everShut;
        }

        int shutLines() {
            int found = 0;
            for (int i = 0; i < roster.size(); i++) {
                if (isShut(i)) {
                    found++;
                }
            }
            return found;
        }

        int penaltyOf(int number, int at) {
            return penaltyAt(roster.slotOf(number), at);
        }

        private int penaltyAt(int slot, int at) {
            return rules.fade(penalty[slot], at - since[slot]);
        }

        /** Fading twice is not fading once by both: what a penalty is now must be held by the old rules. */
        void restPenalties(int at) {
            for (int slot = 0; slot < Roster.SLOTS; slot++) {
                penalty[slot] = penaltyAt(slot, at);
                since[slot] = at;
            }
        }

        int ticksTillOpen(int number, int at) {
            int slot = roster.slotOf(number);
            return shut[slot] ? openingTick(slot, at) - at : 0;
        }

        /** The tick behind 'at' with which the slot opens; OPEN is looked at only as a tick comes. */
        private int openingTick(int slot, int at) {
            int below = since[slot] + rules.ticksTillBelow(penalty[slot], rules.get(Rules.OPEN));
            return Math.max(at + 1, below);
        }

        void settleAll(int to) {
            for (int slot = 0; slot < Roster.SLOTS; slot++) {
                settle(slot, to);
            }
        }

        /** The ticks up to 'to' come for the lines of a slot. */
        private void settle(int slot, int to) {
            int from = settled[slot];
            settled[slot] = to;
            if (!shut[slot] || to <= from) {
                return;
            }
            int opening = openingTick(slot, from);
            shut[slot] = opening > to;
            int ticksShut = Math.min(to, opening - 1) - from;
            for (int i = firstOf(slot); i < endOf(slot); i++) {
                if (up[i] && roster.slotOf(i) == slot) {
                    lost[i] += ticksShut;
                }
            }
            lookAt(slot);
        }

        void take(int number, int what, int at) {
            int slot = roster.slotOf(number);
            settle(slot, at);
            int sum = penaltyAt(slot, at) + weightOf(number, what, at);
            penalty[slot] = Math.min(rules.get(Rules.CAP), sum);
            since[slot] = at;
            lastEvent[number] = at;
            if (what != ECHOED) {
                up[number] = what == WENT_UP;
            }
            if (penalty[slot] > rules.get(Rules.SHUT)) {
                shut[slot] = true;
                everShut = true;
            }
            lookAt(slot);
        }

        private int weightOf(int number, int what, int at) {
            boolean forgiving = what == WENT_DOWN && roster.kindOf(number) == FORGIVING;
            if (forgiving && lastEvent[number] < at - rules.get(Rules.QUIET)) {
                return 0;
            }
            return rules.get(what);
        }

        private void lookAt(int slot) {
            for (int i = firstOf(slot); i < endOf(slot); i++) {
                boolean seenNow = up[i] && !shut[slot];
                if (roster.slotOf(i) == slot && seenNow != seen[i]) {
                    seen[i] = seenNow;
                    flips[i]++;
                }
            }
        }

        /** The lines of a slot lie from firstOf on, before endOf. */
        private int firstOf(int slot) {
            return slot < MOST_LINES ? slot : 0;
        }

        private int endOf(int slot) {
            return Math.min(roster.size(), slot < MOST_LINES ? slot + 1 : MOST_LINES);
        }
    }

    /** The log gone over again by other marks, and marks found so. */
    private static final class Replay {
        private static final int SHUT_STEP = 500, MOST_SHUT = 10000, OPEN_STEP = 250;
        /** 2 + 4 + .. + 40 pairs of marks. */
        private static final int PAIRS = 420;
        private static final int SHUT_FACTOR = 100000;
        private static final int NONE_TOLD = -999, CONFLICT = -1000, LINE_FACTOR = 16;

        private final Rules rules;
        private final Roster roster;
        private final Log log;
        private final Rules trialRules = new Rules();
        private final Board board;
        private final int[] metBy = new int[PAIRS];
        private int tried = 0;

        Replay(Rules rules, Roster roster, Log log) {
            this.rules = rules;
            this.roster = roster;
            this.log = log;
            board = new Board(trialRules, roster);
        }

        void goOver(int shut, int open, int now) {
            trialRules.copyWithMarks(rules, shut, open);
            board.restart();
            for (int i = 0; i < log.size(); i++) {
                board.take(log.lineAt(i), log.whatAt(i), log.tickAt(i));
            }
            board.settleAll(now);
        }

        int flipsOf(int number) {
            return board.flipsOf(number);
        }

        int lostOf(int number) {
            return board.lostOf(number);
        }

        int findMarks(int n, int now) {
            int wanted = roster.markedLines();
            boolean anyShut = true;
            tried = 0;
            // where no line was shut, no greater SHUT, nor any OPEN, makes a difference
            for (int shut = SHUT_STEP; shut <= MOST_SHUT && anyShut; shut += SHUT_STEP) {
                for (int open = OPEN_STEP; open <= shut && anyShut; open += OPEN_STEP) {
                    goOver(shut, open, now);
                    int met = metLines(n);
                    if (met == wanted) {
                        return shut * SHUT_FACTOR + open;
                    }
                    keep(met);
                    anyShut = board.wasEverShut();
                }
            }
            return conflict();
        }

        private void keep(int met) {
            if (tried < metBy.length) {
                metBy[tried] = met;
                tried++;
            }
        }

        /** A bit for each marked line that has what its mark asks. */
        private int metLines(int n) {
            int bits = 0;
            for (int i = 0; i < roster.size(); i++) {
                int m = roster.markOf(i);
                boolean calmTrue = m == TRUE_LINE && board.lostOf(i) == 0;
                boolean calmFlutter = m == FLUTTER_LINE && board.flipsOf(i) <= n;
                if (calmTrue || calmFlutter) {
                    bits |= 1 << i;
                }
            }
            return bits;
        }

        private int conflict() {
            for (int i = 0; i < roster.size(); i++) {
                if (roster.markOf(i) != UNMARKED && !canMeet(i, i)) {
                    return told(i, i);
                }
            }
            for (int i = 0; i < roster.size(); i++) {
                for (int k = 0; k < roster.size(); k++) {
                    boolean unlike = roster.markOf(i) == TRUE_LINE && roster.markOf(k) == FLUTTER_LINE;
                    if (unlike && !canMeet(i, k)) {
                        return told(i, k);
                    }
                }
            }
            return NONE_TOLD;
        }

        private boolean canMeet(int one, int other) {
            int both = 1 << one | 1 << other;
            for (int i = 0; i < tried; i++) {
                if ((metBy[i] & both) == both) {
                    return true;
                }
            }
            return false;
        }

        private static int told(int one, int other) {
            return CONFLICT - (one * LINE_FACTOR + other);
        }
    }

    /**
     * Houses, ways and letters. A row of houses is one number: three bits a house,
     * its number and 1, the first house lowest; no row is 0. Rows hold no house
     * twice, so fifteen bits are enough.
     */
    private static final class Net {
        static final int HOUSES = 5, GOAL = 0, MOST_LETTERS = 2000;

        private static final int NO_ROW = 0;
        private static final int BITS = 3, ONE_HOUSE = 7;

        private final boolean[] wayThere = new boolean[HOUSES * HOUSES];
        private final int[] told = new int[HOUSES * HOUSES];
        private final int[] bound = new int[HOUSES * HOUSES];
        private final int[] ownRow = new int[HOUSES];
        private final int[] echoed = new int[HOUSES];
        private final int[] letters = new int[MOST_LETTERS];
        private int sent = 0;
        private int taken = 0;
        private int allTaken = 0;
        private int wayCount = 0;
        private boolean goalCut = false;

        Net() {
            for (int i = 0; i < bound.length; i++) {
                bound[i] = NONE;
            }
        }

        static boolean isHouse(int number) {
            return number >= 0 && number < HOUSES;
        }

        private static int place(int house, int neighbour) {
            return house * HOUSES + neighbour;
        }

        boolean hasWay(int a, int b) {
            return wayThere[place(a, b)];
        }

        void putWay(int a, int b, boolean there) {
            wayThere[place(a, b)] = there;
            wayThere[place(b, a)] = there;
            wayCount += there ? 1 : -1;
            if (!there) {
                told[place(a, b)] = NO_ROW;
                told[place(b, a)] = NO_ROW;
            }
        }

        int ways() {
            return wayCount;
        }

        void putBound(int house, int neighbour, int number) {
            bound[place(house, neighbour)] = number;
        }

        int echoesOf(int house) {
            return echoed[house];
        }

        int lettersOfAll() {
            return allTaken;
        }

        int ownAt(int house, int k) {
            if (k >= HOUSES) {
                return NONE;
            }
            return (ownRow[house] >> BITS * k & ONE_HOUSE) - 1;
        }

        void startFlood(boolean cut) {
            goalCut = cut;
            sent = 0;
            taken = 0;
            for (int house = 0; house < HOUSES; house++) {
                echoed[house] = 0;
            }
            for (int house = 0; house < HOUSES; house++) {
                findOwn(house);
            }
        }

        boolean hasLetter() {
            return taken < sent;
        }

        /** The next letter comes: the line whose echo it is, or NONE. */
        int takeLetter() {
            if (!hasLetter()) {
                return NONE;
            }
            int letter = letters[taken];
            taken++;
            allTaken++;
            int at = letter % (HOUSES * HOUSES);
            int row = letter / (HOUSES * HOUSES);
            if (told[at] == row) {
                return NONE;
            }
            int house = at / HOUSES;
            told[at] = row;
            echoed[house]++;
            findOwn(house);
            return bound[at];
        }

        private void findOwn(int house) {
            int row = house == GOAL ? goalRow() : shortestRow(house);
            if (row != ownRow[house]) {
                ownRow[house] = row;
                send(house, row);
            }
        }

        private int goalRow() {
            return goalCut ? NO_ROW : GOAL + 1;
        }

        private int shortestRow(int house) {
            int best = NO_ROW;
            for (int i = 0; i < HOUSES; i++) {
                int row = told[place(house, i)];
                if (row == NO_ROW || holds(row, house)) {
                    continue;
                }
                if (best == NO_ROW || lengthOf(row) < lengthOf(best)) {
                    best = row;
                }
            }
            return best == NO_ROW ? NO_ROW : best << BITS | house + 1;
        }

        private static boolean holds(int row, int house) {
            for (int k = 0; k < HOUSES; k++) {
                if ((row >> BITS * k & ONE_HOUSE) == house + 1) {
                    return true;
                }
            }
            return false;
        }

        private static int lengthOf(int row) {
            int length = 0;
            while (length < HOUSES && row >> BITS * length != 0) {
                length++;
            }
            return length;
        }

        /** A letter that finds no room could not come any more: as many come as there is room for. */
        private void send(int house, int row) {
            for (int i = 0; i < HOUSES; i++) {
                if (hasWay(house, i) && sent < MOST_LETTERS) {
                    letters[sent] = row * (HOUSES * HOUSES) + place(i, house);
                    sent++;
                }
            }
        }
    }
}
