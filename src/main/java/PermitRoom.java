/**
 * A plant where nobody opens a pipe without a paper.
 *
 * The numbered promises that this class keeps stand in DOC.md. Sets of places, pipes, hazards and permits
 * are held as bits of an int throughout, and every array is made with the object, so that no call makes one.
 */
public final class PermitRoom {
    public static final int NUMBER = -1;
    public static final int FULL = -2;
    public static final int NONE = -3;
    public static final int STATE = -4;
    public static final int LOCKED = -5;
    public static final int BAR = -10;
    public static final int FAULT = -100;

    private static final int PLACES = 10;
    private static final int HAZARDS = 3;
    private static final int PIPES = 12;
    private static final int RULES = 12;
    private static final int PERMITS = 7;
    private static final int MEN = 8;
    private static final int LAST_HOUR = 300;
    private static final int LONGEST_GO = 48;
    private static final int HOURS_OF_DAY = 24;
    private static final int TAPE_BYTES = 60;
    private static final int BYTES_OF_LONG = 8;
    private static final int HIGHEST_TEST = 100;
    private static final int GOOD_TEST = 10;

    private static final int VALVE = 0;
    private static final int BLIND = 1;
    private static final int NO_FITTING = 2;

    private static final int SORTS = 3;

    private static final int NEED = 0;
    private static final int BAR_BOTH = 1;
    private static final int DOUBLE = 2;
    private static final int MOST_MEN = 3;
    private static final int DAY_HOURS = 4;
    private static final int WATCH = 5;

    private static final int ASKED = 0;
    private static final int ISOLATED = 1;
    private static final int TESTED = 2;
    private static final int LIVE = 3;
    private static final int HUNG = 4;
    private static final int BACK = 5;

    private static final int TO_ISOLATE = 0;
    private static final int TO_TEST = 1;
    private static final int TO_START = 2;
    private static final int TO_HANG = 3;
    private static final int TO_BACK = 4;
    private static final int TO_ENTER = 5;

    private static final int BY_STATE = 1;
    private static final int BY_SAFE = 2;
    private static final int BY_TEST = 3;
    private static final int BY_QUARREL = 4;
    private static final int BY_HOURS = 5;
    private static final int BY_HOLDER = 6;
    private static final int BY_MEN = 7;
    private static final int BY_WATCH = 8;

    /** hold() has -1 for "nobody", so its own refusal of a number must be another one. */
    private static final int NUMBER_OF_HOLD = -9;
    private static final int NOBODY = -1;
    private static final int OUTSIDE = -1;

    private final Plant plant = new Plant();
    private final Net net = plant.net;
    private final RuleBook book = plant.book;
    private final Papers papers = plant.papers;
    private final Crew crew = plant.crew;
    private final Tape tape = new Tape();
    private final History history = new History();
    private final Plan plan = new Plan();
    private int now = 0;

    public PermitRoom() {
    }

    // ---- the net

    public int pipe(int a, int b, int fitting) {
        if (!isPlace(a) || !isPlace(b) || a == b || fitting < VALVE || fitting > NO_FITTING) {
            return NUMBER;
        }
        if (net.count >= PIPES) {
            return FULL;
        }
        return net.lay(a, b, fitting, now);
    }

    public int of(int pipe, int what) {
        if (!net.has(pipe)) {
            return NUMBER;
        }
        switch (what) {
            case 0:
                return net.oneEnd[pipe];
            case 1:
                return net.otherEnd[pipe];
            case 2:
                return net.fitting[pipe];
            case 3:
                return net.knownFrom[pipe];
            case 4:
                return plant.closedNow() >> pipe & 1;
            case 5:
                return papers.locksOn(pipe);
            default:
                return NUMBER;
        }
    }

    public int source(int place, int hazard, boolean is) {
        if (!isPlace(place) || hazard < 0 || hazard >= HAZARDS) {
            return NUMBER;
        }
        return net.tellSource(place, hazard, is) ? 1 : 0;
    }

    public int turn(int pipe, boolean closed) {
        if (!net.hasFitting(pipe)) {
            return NUMBER;
        }
        if (!closed && papers.locksOn(pipe) > 0) {
            return LOCKED;
        }
        return net.turnByHand(pipe, closed) ? 1 : 0;
    }

    public int safe(int place) {
        if (!isPlace(place)) {
            return NUMBER;
        }
        return net.isSafe(place, plant.closedNow(), net.allPipes(), book.doubledAt(now)) ? 1 : 0;
    }

    public int barriers(int a, int b) {
        if (!isPlace(a) || !isPlace(b)) {
            return NUMBER;
        }
        return net.fewestBarriers(a, b, plant.closedNow());
    }

    public int apart(int a, int b) {
        if (!isPlace(a) || !isPlace(b)) {
            return NUMBER;
        }
        return net.pipesApart(a, b);
    }

    public int go(int n) {
        if (n < 1 || n > LONGEST_GO || now + n > LAST_HOUR) {
            return NUMBER;
        }
        history.keep(now, now + n, plant.closedNow(), papers.inState(LIVE));
        now += n;
        return now;
    }

    // ---- rules

    public int feed(long w, int n) {
        if (n < 1 || n > BYTES_OF_LONG) {
            return NUMBER;
        }
        if (tape.length + n > TAPE_BYTES) {
            return FULL;
        }
        tape.takeBytes(w, n);
        return tape.length;
    }

    public int rule() {
        int fault = tape.readRule();
        tape.wipe();
        if (fault != NONE) {
            return FAULT - fault;
        }
        if (book.count >= RULES) {
            return FULL;
        }
        return book.write(tape, now);
    }

    public int strike(int rule) {
        if (!book.has(rule)) {
            return NUMBER;
        }
        if (book.struckAt[rule] != NONE) {
            return STATE;
        }
        book.struckAt[rule] = now;
        return 1;
    }

    public int ruleOf(int rule, int what) {
        if (!book.has(rule)) {
            return NUMBER;
        }
        switch (what) {
            case 0:
                return book.kind[rule];
            case 1:
                return book.subject[rule];
            case 2:
                return book.second[rule];
            case 3:
                return book.last[rule];
            case 4:
                return book.inForce(rule, now) ? 1 : 0;
            default:
                return NUMBER;
        }
    }

    // ---- permits

    public int ask(int place, int sort, int set) {
        if (!isPlace(place) || sort < 0 || sort >= SORTS || (set & ~net.allFittings()) != 0) {
            return NUMBER;
        }
        if (papers.count >= PERMITS) {
            return FULL;
        }
        return papers.write(place, sort, set);
    }

    public int hold(int permit, int man) {
        if (!papers.has(permit) || man != NOBODY && !isMan(man)) {
            return NUMBER_OF_HOLD;
        }
        int state = papers.state[permit];
        if (state == BACK || state == LIVE && !crew.isOn(man)) {
            return STATE;
        }
        int before = papers.holder[permit];
        papers.holder[permit] = man;
        return before;
    }

    public int isolate(int permit) {
        int refusal = refusalOf(permit, TO_ISOLATE);
        if (refusal < 0) {
            return refusal;
        }
        int before = plant.closedNow();
        papers.state[permit] = ISOLATED;
        return Integer.bitCount(plant.closedNow() & ~before);
    }

    public int test(int permit, int v) {
        if (v < 0 || v > HIGHEST_TEST) {
            return NUMBER;
        }
        int refusal = refusalOf(permit, TO_TEST);
        if (refusal < 0) {
            return refusal;
        }
        papers.noteTest(permit, v, now);
        return v <= GOOD_TEST ? 1 : 0;
    }

    public int start(int permit) {
        int refusal = refusalOf(permit, TO_START);
        if (refusal < 0) {
            return refusal;
        }
        papers.state[permit] = LIVE;
        return 1;
    }

    public int hang(int permit) {
        int refusal = refusalOf(permit, TO_HANG);
        if (refusal < 0) {
            return refusal;
        }
        papers.endLive(permit, now);
        return 1;
    }

    public int back(int permit) {
        int refusal = refusalOf(permit, TO_BACK);
        if (refusal < 0) {
            return refusal;
        }
        int before = plant.closedNow();
        papers.state[permit] = BACK;
        return Integer.bitCount(before & ~plant.closedNow());
    }

    public int may(int permit, int act) {
        if (!papers.has(permit) || act < TO_ISOLATE || act > TO_ENTER) {
            return NUMBER;
        }
        return plant.firstBar(permit, act, now);
    }

    public int quarrels(int permit) {
        if (!papers.has(permit)) {
            return NUMBER;
        }
        return plant.quarrelOf(permit, now);
    }

    public int permitOf(int permit, int what) {
        if (!papers.has(permit)) {
            return NUMBER;
        }
        switch (what) {
            case 0:
                return papers.place[permit];
            case 1:
                return papers.sort[permit];
            case 2:
                return papers.set[permit];
            case 3:
                return papers.state[permit];
            case 4:
                return papers.holder[permit] == NOBODY ? NONE : papers.holder[permit];
            case 5:
                return crew.insideFor(permit);
            case 6:
                return papers.testValue[permit];
            case 7:
                return papers.testHour[permit];
            case 8:
                return papers.state[permit] == LIVE ? now : papers.liveTill[permit];
            default:
                return NUMBER;
        }
    }

    // ---- men

    public int enter(int man, int permit) {
        if (!isMan(man) || !papers.has(permit)) {
            return NUMBER;
        }
        if (!crew.isOn(man) || crew.workOf[man] != OUTSIDE) {
            return STATE;
        }
        int refusal = refusalOf(permit, TO_ENTER);
        if (refusal < 0) {
            return refusal;
        }
        crew.workOf[man] = permit;
        return crew.insideFor(permit);
    }

    public int leave(int man) {
        if (!isMan(man)) {
            return NUMBER;
        }
        int permit = crew.workOf[man];
        if (permit == OUTSIDE) {
            return STATE;
        }
        crew.workOf[man] = OUTSIDE;
        return permit;
    }

    public int shift(int man, boolean on) {
        if (!isMan(man)) {
            return NUMBER;
        }
        boolean isBound = crew.workOf[man] != OUTSIDE || papers.holdsLive(man);
        if (crew.isOn(man) == on || !on && isBound) {
            return STATE;
        }
        crew.tellShift(man, on);
        return 1;
    }

    public int siren() {
        int cameOut = crew.comeOut();
        papers.endAllLive(now);
        return cameOut;
    }

    // ---- sets, leaks, what was right

    public int least(int place) {
        int set = leastSet(place);
        return set < 0 ? set : net.hoursOf(set);
    }

    public int leastSet(int place) {
        if (!isPlace(place)) {
            return NUMBER;
        }
        return net.leastSetFor(place, book.doubledAt(now));
    }

    public int risk(int pipe) {
        if (!net.hasFitting(pipe)) {
            return NUMBER;
        }
        int doubled = book.doubledAt(now);
        int stillClosed = plant.closedNow() & ~(1 << pipe);
        int atRisk = 0;
        for (int w = 0; w < papers.count; w++) {
            boolean isLive = papers.state[w] == LIVE;
            if (isLive && !net.isSafe(papers.place[w], stillClosed, net.allPipes(), doubled)) {
                atRisk |= 1 << w;
            }
        }
        return atRisk;
    }

    public int right(int permit, int hour, int known) {
        if (!papers.has(permit) || !isPast(hour) || !isPast(known)) {
            return NUMBER;
        }
        int live = hour == now ? papers.inState(LIVE) : history.liveAt[hour];
        if ((live >> permit & 1) == 0) {
            return 2;
        }
        int closed = hour == now ? plant.closedNow() : history.closedAt[hour];
        return net.isSafe(papers.place[permit], closed, net.knownAt(known), book.doubledAt(hour)) ? 1 : 0;
    }

    // ---- the order

    public int order() {
        return plan.tell(papers, plant.closedNow());
    }

    public int ordered(int i) {
        if (i < 0 || i >= plan.size) {
            return NONE;
        }
        return plan.inOrder[i];
    }

    public int row(int i, int what) {
        if (what < 0 || what >= Plan.WIDTH) {
            return NUMBER;
        }
        if (i < 0 || i >= plan.rowCount) {
            return NONE;
        }
        return plan.rows[i * Plan.WIDTH + what];
    }

    public int alter(int i, int what, int v) {
        if (what < 0 || what >= Plan.WIDTH) {
            return NUMBER;
        }
        if (i < 0 || i >= plan.rowCount) {
            return NONE;
        }
        int before = plan.rows[i * Plan.WIDTH + what];
        plan.rows[i * Plan.WIDTH + what] = v;
        return before;
    }

    public int drop() {
        if (plan.rowCount == 0) {
            return NONE;
        }
        plan.rowCount--;
        return plan.rowCount;
    }

    public int check() {
        return plan.isTold ? plan.firstWrongRow() : NONE;
    }

    public int many(int what) {
        switch (what) {
            case 0:
                return now;
            case 1:
                return net.count;
            case 2:
                return book.count;
            case 3:
                return papers.count;
            case 4:
                return Integer.bitCount(papers.inState(LIVE));
            case 5:
                return Integer.bitCount(plant.closedNow());
            case 6:
                return crew.allInside();
            case 7:
                return Integer.bitCount(crew.onShift);
            case 8:
                return tape.length;
            case 9:
                return plan.rowCount;
            case 10:
                return papers.allLocks();
            default:
                return NUMBER;
        }
    }

    // ---- what several calls need

    private static boolean isPlace(int place) {
        return place >= 0 && place < PLACES;
    }

    private static boolean isMan(int man) {
        return man >= 0 && man < MEN;
    }

    private boolean isPast(int hour) {
        return hour >= 0 && hour <= now;
    }

    /** What an act of a permit is refused with, or 0 if it may go on. */
    private int refusalOf(int permit, int act) {
        if (!papers.has(permit)) {
            return NUMBER;
        }
        int bar = plant.firstBar(permit, act, now);
        return bar == 0 ? 0 : BAR - bar;
    }

    /** Places, pipes with their fittings, and sources. */
    private static final class Net {
        private static final int VALVE_HOURS = 1;
        private static final int BLIND_HOURS = 3;
        /** A row without a place twice has a pipe fewer than there are places, each with 2 barriers at most. */
        private static final int MOST_BARRIERS = 2 * (PLACES - 1);

        final int[] oneEnd = new int[PIPES];
        final int[] otherEnd = new int[PIPES];
        final int[] bothEnds = new int[PIPES];
        final int[] fitting = new int[PIPES];
        final int[] knownFrom = new int[PIPES];
        final int[] sources = new int[HAZARDS];
        int count = 0;
        int valves = 0;
        int blinds = 0;
        int byHand = 0;

        int lay(int a, int b, int sort, int hour) {
            int pipe = count;
            oneEnd[pipe] = a;
            otherEnd[pipe] = b;
            bothEnds[pipe] = 1 << a | 1 << b;
            fitting[pipe] = sort;
            knownFrom[pipe] = hour;
            valves |= sort == VALVE ? 1 << pipe : 0;
            blinds |= sort == BLIND ? 1 << pipe : 0;
            count++;
            return pipe;
        }

        boolean has(int pipe) {
            return pipe >= 0 && pipe < count;
        }

        boolean hasFitting(int pipe) {
            return has(pipe) && fitting[pipe] != NO_FITTING;
        }

        int allPipes() {
            return (1 << count) - 1;
        }

        int allFittings() {
            return valves | blinds;
        }

        int knownAt(int hour) {
            int known = 0;
            for (int i = 0; i < count; i++) {
                known |= knownFrom[i] <= hour ? 1 << i : 0;
            }
            return known;
        }

        boolean tellSource(int place, int hazard, boolean is) {
            int before = sources[hazard];
            sources[hazard] = is ? before | 1 << place : before & ~(1 << place);
            return sources[hazard] != before;
        }

        boolean turnByHand(int pipe, boolean closed) {
            int before = byHand;
            byHand = closed ? before | 1 << pipe : before & ~(1 << pipe);
            return byHand != before;
        }

        /** The places and all that lie one pipe of these pipes away. */
        int stepOver(int places, int pipes) {
            int reached = places;
            for (int i = 0; i < count; i++) {
                if ((pipes >> i & 1) != 0 && (bothEnds[i] & places) != 0) {
                    reached |= bothEnds[i];
                }
            }
            return reached;
        }

        /** The places and all that any number of these pipes joins to them. */
        int spread(int places, int pipes) {
            int reached = places;
            for (int round = 0; round < PLACES; round++) {
                int before = reached;
                for (int i = 0; i < count; i++) {
                    if ((pipes >> i & 1) != 0 && (bothEnds[i] & reached) != 0) {
                        reached |= bothEnds[i];
                    }
                }
                if (reached == before) {
                    break;
                }
            }
            return reached;
        }

        int sourcesOf(int hazards) {
            int places = 0;
            for (int h = 0; h < HAZARDS; h++) {
                places |= (hazards >> h & 1) != 0 ? sources[h] : 0;
            }
            return places;
        }

        /**
         * Only rows with no barrier, and for doubled hazards with a single one, matter; so it is enough to
         * look which places lie that near. The place itself is always among them: it is never parted from itself.
         */
        boolean isSafe(int place, int closed, int pipes, int doubled) {
            int open = pipes & ~closed;
            int withoutBarrier = spread(1 << place, open);
            if ((withoutBarrier & sourcesOf((1 << HAZARDS) - 1)) != 0) {
                return false;
            }
            if (doubled == 0) {
                return true;
            }
            int behindValve = stepOver(withoutBarrier, pipes & closed & valves);
            return (spread(behindValve, open) & sourcesOf(doubled)) == 0;
        }

        /** Goes out from a one barrier more at a time; a blind is a step from two rounds ago. */
        int fewestBarriers(int a, int b, int closed) {
            int open = allPipes() & ~closed;
            int roundAgo = 0;
            int reached = spread(1 << a, open);
            for (int barriers = 0; barriers <= MOST_BARRIERS; barriers++) {
                if ((reached >> b & 1) != 0) {
                    return barriers;
                }
                int further = stepOver(reached, closed & valves) | stepOver(roundAgo, closed & blinds);
                roundAgo = reached;
                reached = spread(further, open);
            }
            return NONE;
        }

        int pipesApart(int a, int b) {
            int reached = 1 << a;
            for (int steps = 0; steps < PLACES; steps++) {
                if ((reached >> b & 1) != 0) {
                    return steps;
                }
                reached = stepOver(reached, allPipes());
            }
            return NONE;
        }

        int hoursOf(int set) {
            return VALVE_HOURS * Integer.bitCount(set & valves) + BLIND_HOURS * Integer.bitCount(set & blinds);
        }

        int leastSetFor(int place, int doubled) {
            if (isSafe(place, 0, allPipes(), doubled)) {
                return 0;
            }
            if (!isSafe(place, allFittings(), allPipes(), doubled)) {
                return NONE;
            }
            return leastSetFrom(this, place, doubled, 0, 0, thinned(place, doubled));
        }

        /** A safe set from which nothing can be left out: a good bound for the search, found at once. */
        private int thinned(int place, int doubled) {
            int set = allFittings();
            for (int i = count - 1; i >= 0; i--) {
                int without = set & ~(1 << i);
                if (without != set && isSafe(place, without, allPipes(), doubled)) {
                    set = without;
                }
            }
            return set;
        }

        /**
         * The better one of best and the least set that has the chosen fittings, which aren't enough, and else
         * only such from next on. More closed is never less safe: so a set that is safe needs no other fitting,
         * and what isn't safe with all that are left needs no look.
         */
        private static int leastSetFrom(Net net, int place, int doubled, int chosen, int next, int best) {
            int better = best;
            for (int i = next; i < net.count && net.hoursOf(chosen) < net.hoursOf(better); i++) {
                int more = chosen | 1 << i & net.allFittings();
                int hoursToSpare = net.hoursOf(better) - net.hoursOf(more);
                if (more != chosen && hoursToSpare >= 0) {
                    if (net.isSafe(place, more, net.allPipes(), doubled)) {
                        better = net.isBetter(more, better) ? more : better;
                    } else if (hoursToSpare > 0) {
                        better = leastSetFrom(net, place, doubled, more, i + 1, better);
                    }
                }
                int left = net.allFittings() & -2 << i;
                if (!net.isSafe(place, chosen | left, net.allPipes(), doubled)) {
                    break;
                }
            }
            return better;
        }

        private boolean isBetter(int set, int than) {
            if (hoursOf(set) != hoursOf(than)) {
                return hoursOf(set) < hoursOf(than);
            }
            if (Integer.bitCount(set) != Integer.bitCount(than)) {
                return Integer.bitCount(set) < Integer.bitCount(than);
            }
            int unlike = set ^ than;
            int firstUnlike = unlike & -unlike;
            return (set & firstUnlike) != 0;
        }
    }

    /** The bytes that were fed, and the rule that was read from them last. */
    private static final class Tape {
        private static final String KINDS = "need bar double men hours watch";
        private static final String SORT_NAMES = "cold hot vessel";
        private static final String HAZARD_NAMES = "gas steam power";
        private static final int BLANK = 32;
        private static final int MOST_DIGITS = 3;

        final int[] bytes = new int[TAPE_BYTES];
        int length = 0;

        int kind = 0;
        int subject = 0;
        int second = 0;
        int last = 0;

        /** The piece that is being read (a word, a number, another byte) is from here to the byte ahead of end. */
        int from = 0;
        int end = 0;
        int fault = NONE;

        void takeBytes(long w, int n) {
            for (int i = 0; i < n && length < TAPE_BYTES; i++) {
                bytes[length] = (int) (w >>> 8 * i & 255);
                length++;
            }
        }

        void wipe() {
            length = 0;
        }

        /** The fault's place, or NONE, and then the rule stands in the fields. */
        int readRule() {
            end = 0;
            fault = NONE;
            second = NONE;
            last = NONE;
            kind = readOneOf(KINDS);
            subject = readOneOf(kind == DOUBLE ? HAZARD_NAMES : SORT_NAMES);
            readRest();
            readEnd();
            return fault;
        }

        private void readRest() {
            switch (kind) {
                case NEED:
                    readOneOf("test");
                    second = readNumber(1, 48);
                    break;
                case BAR_BOTH:
                    second = readOneOf(SORT_NAMES);
                    readOneOf("within");
                    last = readNumber(0, 9);
                    break;
                case MOST_MEN:
                    second = readNumber(1, 12);
                    break;
                case DAY_HOURS:
                    second = readNumber(0, HOURS_OF_DAY - 1);
                    readOneOf("to");
                    last = readNumber(0, HOURS_OF_DAY - 1);
                    break;
                case WATCH:
                    second = readNumber(1, 24);
                    break;
                default:
                    break;
            }
        }

        /** The first fault counts: behind it nothing is read any more. */
        private void blame() {
            if (fault == NONE) {
                fault = from;
            }
        }

        private void readEnd() {
            if (fault == NONE) {
                findPiece();
                if (from < length) {
                    blame();
                }
            }
        }

        private int readOneOf(String words) {
            if (fault != NONE) {
                return NONE;
            }
            findPiece();
            int found = isParted() ? placeAmong(words) : NONE;
            if (found == NONE) {
                blame();
            }
            return found;
        }

        private int readNumber(int lowest, int highest) {
            if (fault != NONE) {
                return NONE;
            }
            findPiece();
            int value = isParted() ? numberOfPiece() : NONE;
            if (value < lowest || value > highest) {
                blame();
            }
            return value;
        }

        /** At the end of the tape the piece is empty and begins behind the last byte. */
        private void findPiece() {
            int at = end;
            while (at < length && bytes[at] == BLANK) {
                at++;
            }
            from = at;
            if (isLetter(at)) {
                while (at < length && isLetter(at)) {
                    at++;
                }
            } else if (isDigit(at)) {
                while (at < length && isDigit(at)) {
                    at++;
                }
            } else if (at < length) {
                at++;
            }
            end = at;
        }

        private boolean isLetter(int at) {
            return at < length && bytes[at] >= 'a' && bytes[at] <= 'z';
        }

        private boolean isDigit(int at) {
            return at < length && bytes[at] >= '0' && bytes[at] <= '9';
        }

        private boolean isParted() {
            return from == 0 || bytes[from - 1] == BLANK;
        }

        private int numberOfPiece() {
            if (!isDigit(from) || end - from > MOST_DIGITS) {
                return NONE;
            }
            int value = 0;
            for (int i = from; i < end; i++) {
                value = 10 * value + bytes[i] - '0';
            }
            return value;
        }

        /** The place of the piece among words that blanks part, or NONE. */
        private int placeAmong(String words) {
            int place = 0;
            int at = from;
            boolean isAlike = true;
            for (int i = 0; i <= words.length(); i++) {
                if (i < words.length() && words.charAt(i) != BLANK) {
                    isAlike = isAlike && at < end && bytes[at] == words.charAt(i);
                    at++;
                } else if (isAlike && at == end) {
                    return place;
                } else {
                    place++;
                    at = from;
                    isAlike = true;
                }
            }
            return NONE;
        }
    }

    /** The rules that were told, struck ones with them: what was in force once may still be asked for. */
    private static final class RuleBook {
        final int[] kind = new int[RULES];
        final int[] subject = new int[RULES];
        final int[] second = new int[RULES];
        final int[] last = new int[RULES];
        final int[] toldAt = new int[RULES];
        final int[] struckAt = new int[RULES];
        int count = 0;

        int write(Tape tape, int hour) {
            int rule = count;
            kind[rule] = tape.kind;
            subject[rule] = tape.subject;
            second[rule] = tape.second;
            last[rule] = tape.last;
            toldAt[rule] = hour;
            struckAt[rule] = NONE;
            count++;
            return rule;
        }

        boolean has(int rule) {
            return rule >= 0 && rule < count;
        }

        boolean inForce(int rule, int hour) {
            return toldAt[rule] <= hour && (struckAt[rule] == NONE || hour < struckAt[rule]);
        }

        /** Whether a rule of this kind is in force for a sort (for a hazard, if the kind is DOUBLE). */
        boolean speaksOf(int rule, int ofKind, int ofSubject, int hour) {
            return kind[rule] == ofKind && subject[rule] == ofSubject && inForce(rule, hour);
        }

        int doubledAt(int hour) {
            int doubled = 0;
            for (int r = 0; r < count; r++) {
                doubled |= kind[r] == DOUBLE && inForce(r, hour) ? 1 << subject[r] : 0;
            }
            return doubled;
        }

        /** Whether two sorts may not be that many pipes apart (NONE: no pipes join them) at one time. */
        boolean barsBoth(int sort, int otherSort, int apart, int hour) {
            if (apart == NONE) {
                return false;
            }
            for (int r = 0; r < count; r++) {
                boolean isOfBoth = subject[r] == sort && second[r] == otherSort
                    || subject[r] == otherSort && second[r] == sort;
                if (kind[r] == BAR_BOTH && isOfBoth && apart <= last[r] && inForce(r, hour)) {
                    return true;
                }
            }
            return false;
        }
    }

    /** The permits. A lock isn't held anywhere: it follows from set and state. */
    private static final class Papers {
        final int[] place = new int[PERMITS];
        final int[] sort = new int[PERMITS];
        final int[] set = new int[PERMITS];
        final int[] state = new int[PERMITS];
        final int[] holder = new int[PERMITS];
        final int[] testValue = new int[PERMITS];
        final int[] testHour = new int[PERMITS];
        final int[] liveTill = new int[PERMITS];
        int count = 0;

        int write(int atPlace, int ofSort, int pipes) {
            int permit = count;
            place[permit] = atPlace;
            sort[permit] = ofSort;
            set[permit] = pipes;
            state[permit] = ASKED;
            holder[permit] = NOBODY;
            testValue[permit] = NONE;
            testHour[permit] = NONE;
            liveTill[permit] = NONE;
            count++;
            return permit;
        }

        boolean has(int permit) {
            return permit >= 0 && permit < count;
        }

        int inState(int which) {
            int permits = 0;
            for (int w = 0; w < count; w++) {
                permits |= state[w] == which ? 1 << w : 0;
            }
            return permits;
        }

        private int locksOf(int permit) {
            return state[permit] >= ISOLATED && state[permit] < BACK ? set[permit] : 0;
        }

        int lockedPipes() {
            int pipes = 0;
            for (int w = 0; w < count; w++) {
                pipes |= locksOf(w);
            }
            return pipes;
        }

        int locksOn(int pipe) {
            int locks = 0;
            for (int w = 0; w < count; w++) {
                locks += locksOf(w) >> pipe & 1;
            }
            return locks;
        }

        int allLocks() {
            int locks = 0;
            for (int w = 0; w < count; w++) {
                locks += Integer.bitCount(locksOf(w));
            }
            return locks;
        }

        void noteTest(int permit, int value, int hour) {
            testValue[permit] = value;
            testHour[permit] = hour;
            if (state[permit] == ISOLATED) {
                state[permit] = TESTED;
            }
        }

        boolean hasGoodTest(int permit, int hour, int oldest) {
            return testValue[permit] != NONE && testValue[permit] <= GOOD_TEST && hour - testHour[permit] <= oldest;
        }

        void endLive(int permit, int hour) {
            state[permit] = HUNG;
            liveTill[permit] = hour;
        }

        void endAllLive(int hour) {
            for (int w = 0; w < count; w++) {
                if (state[w] == LIVE) {
                    endLive(w, hour);
                }
            }
        }

        boolean holdsLive(int man) {
            for (int w = 0; w < count; w++) {
                if (state[w] == LIVE && holder[w] == man) {
                    return true;
                }
            }
            return false;
        }
    }

    /** Who is on shift, and who is inside for which permit. */
    private static final class Crew {
        int onShift = (1 << MEN) - 1;
        final int[] workOf = new int[MEN];

        Crew() {
            for (int m = 0; m < MEN; m++) {
                workOf[m] = OUTSIDE;
            }
        }

        boolean isOn(int man) {
            return isMan(man) && (onShift >> man & 1) != 0;
        }

        void tellShift(int man, boolean on) {
            onShift = on ? onShift | 1 << man : onShift & ~(1 << man);
        }

        int insideFor(int permit) {
            int men = 0;
            for (int m = 0; m < MEN; m++) {
                men += workOf[m] == permit ? 1 : 0;
            }
            return men;
        }

        int allInside() {
            return MEN - insideFor(OUTSIDE);
        }

        int comeOut() {
            int men = allInside();
            for (int m = 0; m < MEN; m++) {
                workOf[m] = OUTSIDE;
            }
            return men;
        }
    }

    /** What was closed and live as each hour ended that has gone by. */
    private static final class History {
        final int[] closedAt = new int[LAST_HOUR + 1];
        final int[] liveAt = new int[LAST_HOUR + 1];

        void keep(int firstHour, int nextHour, int closed, int live) {
            for (int h = firstHour; h < nextHour; h++) {
                closedAt[h] = closed;
                liveAt[h] = live;
            }
        }
    }

    /** The parts of the plant, and what only several of them together can tell: the bars of an act above all. */
    private static final class Plant {
        /** By act: the states from which it goes, as bits. */
        private static final int[] GOES_FROM = {
            1 << ASKED,
            1 << ISOLATED | 1 << TESTED | 1 << LIVE | 1 << HUNG,
            1 << ISOLATED | 1 << TESTED | 1 << HUNG,
            1 << LIVE,
            1 << ISOLATED | 1 << TESTED | 1 << HUNG,
            1 << LIVE,
        };

        final Net net = new Net();
        final RuleBook book = new RuleBook();
        final Papers papers = new Papers();
        final Crew crew = new Crew();

        int closedNow() {
            return net.byHand | papers.lockedPipes();
        }

        int firstBar(int permit, int act, int hour) {
            if ((GOES_FROM[act] >> papers.state[permit] & 1) == 0) {
                return BY_STATE;
            }
            switch (act) {
                case TO_START:
                    return barOfStart(permit, hour);
                case TO_HANG:
                    return crew.insideFor(permit) > 0 ? BY_MEN : 0;
                case TO_BACK:
                    return barOfBack(permit, hour);
                case TO_ENTER:
                    return barOfEnter(permit, hour);
                default:
                    return 0;
            }
        }

        private int barOfStart(int permit, int hour) {
            if (!net.isSafe(papers.place[permit], closedNow(), net.allPipes(), book.doubledAt(hour))) {
                return BY_SAFE;
            }
            if (lacksTest(permit, hour)) {
                return BY_TEST;
            }
            if (quarrelOf(permit, hour) != NONE) {
                return BY_QUARREL;
            }
            if (isOffHours(permit, hour)) {
                return BY_HOURS;
            }
            return crew.isOn(papers.holder[permit]) ? 0 : BY_HOLDER;
        }

        private int barOfBack(int permit, int hour) {
            if (crew.insideFor(permit) > 0) {
                return BY_MEN;
            }
            return isWatched(permit, hour) ? BY_WATCH : 0;
        }

        private int barOfEnter(int permit, int hour) {
            if (lacksTest(permit, hour)) {
                return BY_TEST;
            }
            if (isOffHours(permit, hour)) {
                return BY_HOURS;
            }
            return isCrowded(permit, hour) ? BY_MEN : 0;
        }

        private boolean lacksTest(int permit, int hour) {
            for (int r = 0; r < book.count; r++) {
                boolean isNeeded = book.speaksOf(r, NEED, papers.sort[permit], hour);
                if (isNeeded && !papers.hasGoodTest(permit, hour, book.second[r])) {
                    return true;
                }
            }
            return false;
        }

        /** The least other live permit that a rule bars together with this one, or NONE. */
        int quarrelOf(int permit, int hour) {
            for (int other = 0; other < papers.count; other++) {
                if (other != permit && papers.state[other] == LIVE) {
                    int apart = net.pipesApart(papers.place[permit], papers.place[other]);
                    if (book.barsBoth(papers.sort[permit], papers.sort[other], apart, hour)) {
                        return other;
                    }
                }
            }
            return NONE;
        }

        private boolean isOffHours(int permit, int hour) {
            for (int r = 0; r < book.count; r++) {
                boolean isTold = book.speaksOf(r, DAY_HOURS, papers.sort[permit], hour);
                if (isTold && !isWithin(hour % HOURS_OF_DAY, book.second[r], book.last[r])) {
                    return true;
                }
            }
            return false;
        }

        private static boolean isWithin(int hourOfDay, int first, int last) {
            if (first > last) {
                return hourOfDay >= first || hourOfDay <= last;
            }
            return hourOfDay >= first && hourOfDay <= last;
        }

        private boolean isCrowded(int permit, int hour) {
            int inside = crew.insideFor(permit);
            for (int r = 0; r < book.count; r++) {
                if (book.speaksOf(r, MOST_MEN, papers.sort[permit], hour) && inside >= book.second[r]) {
                    return true;
                }
            }
            return false;
        }

        private boolean isWatched(int permit, int hour) {
            int ended = papers.liveTill[permit];
            if (ended == NONE) {
                return false;
            }
            for (int r = 0; r < book.count; r++) {
                if (book.speaksOf(r, WATCH, papers.sort[permit], hour) && hour - ended < book.second[r]) {
                    return true;
                }
            }
            return false;
        }
    }

    /** The order that was told last, its proof, and the rows, which were the proof till somebody altered them. */
    private static final class Plan {
        static final int WIDTH = 3;
        private static final int MOST_ROWS = PERMITS * (PERMITS + 1) / 2;
        private static final int MORE_THAN_ANY = 1000;

        final int[] inOrder = new int[PERMITS];
        final int[] proof = new int[MOST_ROWS * WIDTH];
        final int[] rows = new int[MOST_ROWS * WIDTH];
        int size = 0;
        int proofCount = 0;
        int rowCount = 0;
        boolean isTold = false;

        /** The works to be put in order, by permits' numbers: which permit, and what it closes by itself. */
        private final int[] permitOfWork = new int[PERMITS];
        private final int[] needOfWork = new int[PERMITS];
        /** The fewest moves that are left behind a work, by the set of works that are left and that work. */
        private final int[] movesLeft = new int[(1 << PERMITS) * PERMITS];

        int tell(Papers papers, int closed) {
            gatherWorks(papers, closed);
            for (int left = 0; left < 1 << size; left++) {
                for (int work = 0; work < size; work++) {
                    if ((left >> work & 1) == 0) {
                        movesLeft[left * PERMITS + work] = fewestLeft(left, work);
                    }
                }
            }
            proofCount = 0;
            isTold = true;
            int moves = layOrder();
            System.arraycopy(proof, 0, rows, 0, proof.length);
            rowCount = proofCount;
            return moves;
        }

        private void gatherWorks(Papers papers, int closed) {
            size = 0;
            for (int w = 0; w < papers.count; w++) {
                if (papers.state[w] == ASKED) {
                    permitOfWork[size] = w;
                    needOfWork[size] = papers.set[w] & ~closed;
                    size++;
                }
            }
        }

        private int fewestLeft(int left, int work) {
            if (left == 0) {
                return Integer.bitCount(needOfWork[work]);
            }
            int fewest = MORE_THAN_ANY;
            for (int next = 0; next < size; next++) {
                if ((left >> next & 1) != 0) {
                    fewest = Math.min(fewest, movesThrough(needOfWork[work], next, left));
                }
            }
            return fewest;
        }

        /** The fewest moves from what is closed for a work through the next one to the end of all that are left. */
        private int movesThrough(int need, int next, int left) {
            int others = left & ~(1 << next);
            return Integer.bitCount(need ^ needOfWork[next]) + movesLeft[others * PERMITS + next];
        }

        /** Takes at each place the first of the best works, and writes the proof's rows on the way. */
        private int layOrder() {
            int left = (1 << size) - 1;
            int need = 0;
            int made = 0;
            int moves = 0;
            for (int place = 0; place < size; place++) {
                int best = bestWork(place, left, need, made);
                moves = made + movesThrough(need, best, left);
                made += Integer.bitCount(need ^ needOfWork[best]);
                need = needOfWork[best];
                left &= ~(1 << best);
                inOrder[place] = permitOfWork[best];
            }
            return moves;
        }

        private int bestWork(int place, int left, int need, int made) {
            int best = 0;
            int fewest = MORE_THAN_ANY;
            for (int work = 0; work < size; work++) {
                if ((left >> work & 1) != 0) {
                    int moves = made + movesThrough(need, work, left);
                    addRow(place, permitOfWork[work], moves);
                    if (moves < fewest) {
                        fewest = moves;
                        best = work;
                    }
                }
            }
            return best;
        }

        private void addRow(int place, int permit, int moves) {
            if (proofCount >= MOST_ROWS) {
                return;
            }
            proof[proofCount * WIDTH] = place;
            proof[proofCount * WIDTH + 1] = permit;
            proof[proofCount * WIDTH + 2] = moves;
            proofCount++;
        }

        int firstWrongRow() {
            for (int i = 0; i < rowCount * WIDTH; i++) {
                if (rows[i] != proof[i]) {
                    return i / WIDTH;
                }
            }
            return rowCount < proofCount ? rowCount : -1;
        }
    }
}
