import java.io.IOException;

/** Term 3, men, permits and bars: each sentence that names an edge has answers of its own. */
public final class TermThreeTest {
    private static final Due DUE = new Due();
    private static final int ISOLATE = 0;
    private static final int TEST = 1;
    private static final int START = 2;
    private static final int HANG = 3;
    private static final int BACK = 4;
    private static final int ENTER = 5;

    public static void main(String[] args) throws IOException {
        menAndPermits();
        tests();
        firstBars();
        quarrels();
        laterBars();
        whichRulesAndPipes();
        acts();
        history();
        DUE.quotedFrom(args);
        DUE.end();
    }

    private static void menAndPermits() {
        men();
        onShiftAtFirst();
        outOrInside();
        mostPermits();
        setOfPipes();
        noHolderAtFirst();
        states();
        locks();
    }

    private static void men() {
        DUE.says("MEN are 0 to 7");
        PermitRoom room = Due.inState(3);
        DUE.is("enter: man 0", room.enter(0, 0), 1);
        DUE.is("enter: man 7", room.enter(7, 0), 2);
        DUE.is("enter: man 8", room.enter(8, 0), PermitRoom.NUMBER);
        DUE.is("enter: man -1", room.enter(-1, 0), PermitRoom.NUMBER);
        DUE.is("hold: man 7", room.hold(0, 7), 0);
        DUE.is("hold: man 8", room.hold(0, 8), -9);
    }

    private static void onShiftAtFirst() {
        DUE.says("each ON shift (at first) or off");
        PermitRoom room = new PermitRoom();
        for (int man = 0; man < 8; man++) {
            DUE.is("shift: on already", room.shift(man, true), PermitRoom.STATE);
        }
        for (int man = 0; man < 8; man++) {
            DUE.is("shift: off", room.shift(man, false), 1);
            DUE.is("many: on shift", room.many(7), 7 - man);
        }
    }

    private static void outOrInside() {
        DUE.says("OUT, or inside for a PERMIT.");
        PermitRoom room = Due.inState(3);
        for (int man = 0; man < 8; man++) {
            DUE.is("leave: out at first", room.leave(man), PermitRoom.STATE);
        }
        room.enter(3, 0);
        DUE.is("enter: for one only", room.enter(3, 0), PermitRoom.STATE);
        DUE.is("many: inside", room.many(6), 1);
    }

    private static void mostPermits() {
        DUE.says("PERMITS are numbered from 0 as they come, 7 at most");
        PermitRoom room = new PermitRoom();
        for (int w = 0; w < 7; w++) {
            DUE.is("ask " + w, room.ask(w, 0, 0), w);
        }
        DUE.is("ask: an eighth", room.ask(7, 0, 0), PermitRoom.FULL);
        DUE.is("many(3)", room.many(3), 7);
        DUE.is("permitOf: the last", room.permitOf(6, 0), 6);
        DUE.is("permitOf: none behind it", room.permitOf(7, 0), PermitRoom.NUMBER);
    }

    private static void setOfPipes() {
        DUE.says("a SET of PIPES with FITTINGS 0 or 1 (bits)");
        PermitRoom room = Due.roomOfValves(11);
        DUE.is("ask: bit 11 is no pipe yet", room.ask(0, 0, 1 << 11), PermitRoom.NUMBER);
        room.pipe(0, 1, 1);
        DUE.is("ask: no pipes", room.ask(0, 0, 0), 0);
        DUE.is("ask: all twelve", room.ask(0, 0, 4095), 1);
        DUE.is("ask: the last one", room.ask(0, 0, 1 << 11), 2);
        DUE.is("ask: bit 12 is no pipe", room.ask(0, 0, 1 << 12), PermitRoom.NUMBER);
        DUE.is("ask: bit 31 is no pipe", room.ask(0, 0, 1 << 31), PermitRoom.NUMBER);
        DUE.is("ask: all bits", room.ask(0, 0, -1), PermitRoom.NUMBER);
    }

    private static void noHolderAtFirst() {
        DUE.says("a HOLDER (a MAN, or none at first)");
        PermitRoom room = new PermitRoom();
        room.ask(0, 0, 0);
        DUE.is("permitOf: none at first", room.permitOf(0, 4), PermitRoom.NONE);
        DUE.is("hold: none at first", room.hold(0, 0), -1);
        DUE.is("permitOf: man 0", room.permitOf(0, 4), 0);
        DUE.is("hold: none again", room.hold(0, -1), 0);
        DUE.is("permitOf: none again", room.permitOf(0, 4), PermitRoom.NONE);
    }

    private static void states() {
        DUE.says("STATES: 0 ASKED (at first), 1 ISOLATED, 2 TESTED, 3 LIVE, 4 HUNG, 5 BACK.");
        for (int state = 0; state < 6; state++) {
            DUE.is("permitOf: state", Due.inState(state).permitOf(0, 3), state);
        }
    }

    private static void locks() {
        DUE.says("From ISOLATED till BACK it has a LOCK on each FITTING of its SET.");
        PermitRoom room = Due.roomOfValves(3);
        int permit = room.ask(0, 0, 5);
        room.hold(permit, 0);
        locksAre(room, 0);
        room.isolate(permit);
        locksAre(room, 1);
        room.test(permit, 0);
        locksAre(room, 1);
        room.start(permit);
        locksAre(room, 1);
        room.hang(permit);
        locksAre(room, 1);
        room.back(permit);
        locksAre(room, 0);
    }

    private static void locksAre(PermitRoom room, int locks) {
        String state = " in state " + room.permitOf(0, 3);
        DUE.is("of: locks" + state, room.of(0, 5), locks);
        DUE.is("of: locks of one that isn't in the set" + state, room.of(1, 5), 0);
        DUE.is("of: closed" + state, room.of(2, 4), locks);
        DUE.is("many: locks" + state, room.many(10), 2 * locks);
        DUE.is("turn: to open it" + state, room.turn(2, false), locks == 0 ? 0 : PermitRoom.LOCKED);
    }

    private static void tests() {
        DUE.says("A TEST of a PERMIT is a number (0 to 100) at an HOUR");
        PermitRoom room = Due.inState(1);
        room.go(4);
        DUE.is("test(-1)", room.test(0, -1), PermitRoom.NUMBER);
        DUE.is("test(101)", room.test(0, 101), PermitRoom.NUMBER);
        DUE.is("test(100)", room.test(0, 100), 0);
        DUE.is("permitOf: 100", room.permitOf(0, 6), 100);
        DUE.is("test(0)", room.test(0, 0), 1);
        DUE.is("permitOf: 0", room.permitOf(0, 6), 0);
        DUE.is("permitOf: its hour", room.permitOf(0, 7), 4);
        DUE.says("GOOD if it is 10 or less");
        DUE.is("test(9)", room.test(0, 9), 1);
        DUE.is("test(10)", room.test(0, 10), 1);
        DUE.is("test(11)", room.test(0, 11), 0);
        DUE.says("the latest one counts");
        Due.rule(room, "need cold test 48");
        DUE.is("may: a bad one behind a good one", room.may(0, START), 3);
        room.test(0, 10);
        DUE.is("may: a good one behind a bad one", room.may(0, START), 0);
    }

    private static void firstBars() {
        leastBar();
        stateBar();
        safeBar();
        noTestBar();
        oldTestBar();
    }

    private static void leastBar() {
        DUE.says("of several the least");
        PermitRoom room = Due.roomOfValves(1);
        room.source(0, 0, true);
        Due.rule(room, "need hot test 1");
        Due.rule(room, "bar hot cold within 9");
        Due.rule(room, "hours hot 3 to 4");
        Due.live(room, 5, 0, 0, 0);
        int permit = room.ask(1, 1, 0);
        DUE.is("start: 1 of 1, 2, 3, 5, 6", room.start(permit), PermitRoom.BAR - 1);
        room.isolate(permit);
        DUE.is("start: 2 of 2, 3, 5, 6", room.start(permit), PermitRoom.BAR - 2);
        room.turn(0, true);
        room.pipe(1, 5, 2);
        DUE.is("start: 3 of 3, 4, 5, 6", room.start(permit), PermitRoom.BAR - 3);
        room.test(permit, 10);
        DUE.is("start: 4 of 4, 5, 6", room.start(permit), PermitRoom.BAR - 4);
        room.hang(0);
        DUE.is("start: 5 of 5, 6", room.start(permit), PermitRoom.BAR - 5);
        room.strike(2);
        DUE.is("start: 6", room.start(permit), PermitRoom.BAR - 6);
        room.hold(permit, 0);
        DUE.is("start: none", room.start(permit), 1);
    }

    private static void stateBar() {
        DUE.says("1 STATE: it isn't in a STATE from which the act goes.");
        String[] goes = {"0", "1234", "124", "3", "124", "3"};
        for (int state = 0; state < 6; state++) {
            for (int act = ISOLATE; act <= ENTER; act++) {
                int due = goes[act].indexOf('0' + state) >= 0 ? 0 : 1;
                DUE.is("may: act " + act + " in state " + state, Due.inState(state).may(0, act), due);
            }
        }
    }

    private static void safeBar() {
        DUE.says("2 SAFE: its PLACE isn't SAFE.");
        PermitRoom room = Due.roomOfValves(1);
        room.source(0, 0, true);
        int permit = Due.ready(room, 1, 0, 0, 0);
        DUE.is("start: not safe", room.start(permit), PermitRoom.BAR - 2);
        room.turn(0, true);
        DUE.is("start: safe", room.start(permit), 1);
        room.turn(0, false);
        DUE.is("may: enter, though not safe any more", room.may(permit, ENTER), 0);
    }

    private static void noTestBar() {
        DUE.says("a RULE needs a test of its SORT, and there is none, it isn't GOOD");
        PermitRoom room = new PermitRoom();
        int permit = room.ask(0, 1, 0);
        room.hold(permit, 0);
        room.isolate(permit);
        DUE.is("may: no rule", room.may(permit, START), 0);
        Due.rule(room, "need cold test 1");
        DUE.is("may: a rule of another sort", room.may(permit, START), 0);
        Due.rule(room, "need hot test 48");
        DUE.is("may: there is none", room.may(permit, START), 3);
        room.test(permit, 11);
        DUE.is("may: it isn't good", room.may(permit, START), 3);
        room.test(permit, 10);
        DUE.is("may: it is good", room.may(permit, START), 0);
    }

    private static void oldTestBar() {
        DUE.says("or is more than N HOURS old");
        int[] allowed = {1, 2, 47, 48};
        for (int n : allowed) {
            PermitRoom room = new PermitRoom();
            Due.rule(room, "need hot test " + n);
            int permit = Due.ready(room, 0, 1, 0, 0);
            room.go(n);
            DUE.is("may: " + n + " hours old", room.may(permit, START), 0);
            room.go(1);
            DUE.is("may: one more than " + n + " hours old", room.may(permit, START), 3);
        }
    }

    private static void quarrels() {
        anotherIsLive();
        eitherWayRound();
        pipesApart();
        zeroApart();
    }

    private static void anotherIsLive() {
        DUE.says("4 QUARREL: another PERMIT is LIVE, and a RULE bars both SORTS");
        PermitRoom room = new PermitRoom();
        Due.rule(room, "bar hot hot within 0");
        int first = Due.ready(room, 3, 1, 0, 0);
        int second = Due.ready(room, 3, 1, 0, 1);
        int cold = Due.ready(room, 3, 0, 0, 2);
        DUE.is("may: none is live", room.may(second, START), 0);
        DUE.is("start: the first", room.start(first), 1);
        DUE.is("may: the first is live", room.may(second, START), 4);
        DUE.is("may: another sort", room.may(cold, START), 0);
        room.hang(first);
        DUE.is("may: not barred by itself", room.may(first, START), 0);
        DUE.is("may: the first is hung", room.may(second, START), 0);
        room.back(first);
        DUE.is("may: the first is back", room.may(second, START), 0);
    }

    private static void eitherWayRound() {
        DUE.says("(either way round)");
        for (int sort = 0; sort < 3; sort++) {
            for (int other = 0; other < 3; other++) {
                PermitRoom room = new PermitRoom();
                Due.rule(room, "bar cold vessel within 0");
                Due.live(room, 0, sort, 0, 0);
                int permit = Due.ready(room, 0, other, 0, 1);
                boolean isBarred = sort + other == 2 && sort != other;
                DUE.is("may: sort " + other + " beside " + sort, room.may(permit, START), isBarred ? 4 : 0);
            }
        }
    }

    private static void pipesApart() {
        DUE.says("their PLACES being N or fewer PIPES apart");
        for (int n = 0; n <= 9; n++) {
            PermitRoom room = Due.roomOfValves(9);
            Due.rule(room, "bar hot cold within " + n);
            Due.live(room, 0, 0, 0, 0);
            DUE.is("may: " + n + " apart", room.may(Due.ready(room, n, 1, 0, 1), START), 4);
            if (n < 9) {
                DUE.is("may: one more than " + n + " apart", room.may(Due.ready(room, n + 1, 1, 0, 1), START), 0);
            }
        }
        PermitRoom room = new PermitRoom();
        Due.rule(room, "bar hot cold within 9");
        Due.live(room, 0, 0, 0, 0);
        DUE.is("may: no row of pipes between", room.may(Due.ready(room, 1, 1, 0, 1), START), 0);
    }

    private static void zeroApart() {
        DUE.says("(0 apart, if they are the same)");
        for (int place = 0; place < 10; place += 9) {
            PermitRoom room = new PermitRoom();
            Due.rule(room, "bar hot cold within 0");
            Due.live(room, place, 0, 0, 0);
            DUE.is("may: the same place", room.may(Due.ready(room, place, 1, 0, 1), START), 4);
        }
    }

    private static void laterBars() {
        hoursBar();
        holderBar();
        somebodyInside();
        asManyAsLet();
        watchBar();
    }

    private static void hoursBar() {
        DUE.says("the hour of day is not from the one to the other (both with them; around midnight,"
            + " if the first is above the second)");
        int[][] spans = {{0, 0}, {0, 23}, {7, 7}, {7, 9}, {9, 7}, {23, 0}, {22, 1}, {23, 23}, {1, 0}, {0, 1}};
        for (int[] span : spans) {
            PermitRoom room = new PermitRoom();
            Due.rule(room, "hours hot " + span[0] + " to " + span[1]);
            int permit = Due.ready(room, 0, 1, 0, 0);
            int cold = Due.ready(room, 0, 0, 0, 0);
            for (int hour = 0; hour < 30; hour++) {
                int fromFirst = (hour % 24 - span[0] + 24) % 24;
                boolean isWithin = fromFirst <= (span[1] - span[0] + 24) % 24;
                DUE.is("may: hours " + span[0] + " to " + span[1] + " at hour " + hour, room.may(permit, START),
                    isWithin ? 0 : 5);
                DUE.is("may: another sort at hour " + hour, room.may(cold, START), 0);
                room.go(1);
            }
        }
    }

    private static void holderBar() {
        DUE.says("6 HOLDER: it has none, or this one is off.");
        PermitRoom room = new PermitRoom();
        int permit = room.ask(0, 0, 0);
        room.isolate(permit);
        DUE.is("may: none", room.may(permit, START), 6);
        for (int man = 0; man < 8; man += 7) {
            room.hold(permit, man);
            DUE.is("may: man " + man, room.may(permit, START), 0);
            room.shift(man, false);
            DUE.is("may: he is off", room.may(permit, START), 6);
            room.shift(man, true);
        }
        room.hold(permit, -1);
        DUE.is("start: none again", room.start(permit), PermitRoom.BAR - 6);
    }

    private static void somebodyInside() {
        DUE.says("7 MEN: somebody is inside for it");
        PermitRoom room = new PermitRoom();
        Due.live(room, 0, 0, 0, 0);
        Due.live(room, 1, 0, 0, 0);
        room.enter(7, 0);
        DUE.is("hang: one is inside", room.hang(0), PermitRoom.BAR - 7);
        DUE.is("hang: he is inside for another", room.hang(1), 1);
        room.leave(7);
        DUE.is("hang: none is inside", room.hang(0), 1);
    }

    private static void asManyAsLet() {
        DUE.says("of enter(): as many are as a RULE for its SORT lets");
        for (int n = 1; n <= 9; n++) {
            PermitRoom room = new PermitRoom();
            Due.rule(room, "men hot " + n);
            Due.live(room, 0, 1, 0, 0);
            Due.live(room, 0, 0, 0, 0);
            for (int man = 0; man < 8; man++) {
                DUE.is("enter: man " + man + " of " + n, room.enter(man, 0), man < n ? man + 1 : PermitRoom.BAR - 7);
            }
            if (n < 8) {
                DUE.is("enter: another sort", room.enter(7, 1), 1);
                room.leave(0);
                DUE.is("may: one came out", room.may(0, ENTER), 0);
            }
        }
    }

    private static void watchBar() {
        DUE.says("it was LIVE once, and that ended fewer than N HOURS ago");
        int[] watches = {1, 2, 23, 24};
        for (int n : watches) {
            PermitRoom room = new PermitRoom();
            Due.rule(room, "watch hot " + n);
            int permit = Due.live(room, 0, 1, 0, 0);
            int cold = Due.live(room, 0, 0, 0, 0);
            int never = Due.ready(room, 0, 1, 0, 0);
            room.go(30);
            DUE.is("may: never live", room.may(never, BACK), 0);
            room.hang(permit);
            room.hang(cold);
            DUE.is("may: another sort", room.may(cold, BACK), 0);
            DUE.is("may: ended in this hour", room.may(permit, BACK), 8);
            room.test(permit, 0);
            for (int ago = 1; ago < n; ago++) {
                room.go(1);
                DUE.is("may: ended " + ago + " of " + n + " hours ago", room.may(permit, BACK), 8);
            }
            room.go(1);
            DUE.is("may: ended " + n + " hours ago", room.may(permit, BACK), 0);
        }
    }

    private static void whichRulesAndPipes() {
        DUE.says("RULES IN FORCE NOW; several of one kind: all of them.");
        PermitRoom room = new PermitRoom();
        Due.rule(room, "need cold test 5");
        Due.rule(room, "need cold test 3");
        Due.rule(room, "need cold test 4");
        int permit = Due.ready(room, 0, 0, 0, 0);
        room.go(4);
        DUE.is("may: too old for the second", room.may(permit, START), 3);
        room.strike(1);
        DUE.is("may: the second is struck", room.may(permit, START), 0);
        room.go(1);
        DUE.is("may: too old for the third", room.may(permit, START), 3);
        room.strike(2);
        room.go(1);
        DUE.is("may: too old for the first", room.may(permit, START), 3);
        room.strike(0);
        DUE.is("may: all are struck", room.may(permit, START), 0);
        everyKindTwice();
        DUE.says("PIPES that are KNOWN.");
        PermitRoom other = new PermitRoom();
        Due.rule(other, "bar hot hot within 1");
        Due.live(other, 0, 1, 0, 0);
        int near = Due.ready(other, 1, 1, 0, 0);
        DUE.is("may: no pipe is known", other.may(near, START), 0);
        other.pipe(0, 1, 0);
        DUE.is("may: a pipe is known", other.may(near, START), 4);
    }

    /** Of each two rules the one with which the act is barred comes once as the first, once as the second. */
    private static void everyKindTwice() {
        String[][] rules = {
            {"bar hot cold within 9", "bar hot cold within 0"}, {"hours hot 0 to 23", "hours hot 1 to 2"},
            {"men hot 8", "men hot 1"}, {"watch hot 1", "watch hot 3"},
        };
        int[] acts = {START, START, ENTER, BACK};
        for (int kind = 0; kind < rules.length; kind++) {
            for (int first = 0; first < 2; first++) {
                PermitRoom room = Due.roomOfValves(1);
                Due.live(room, 0, 0, 0, 0);
                Due.live(room, 1, 1, 0, 0);
                room.enter(0, 1);
                if (acts[kind] != ENTER) {
                    room.siren();
                    room.start(0);
                    room.go(acts[kind] == BACK ? 2 : 24);
                }
                Due.rule(room, rules[kind][first]);
                Due.rule(room, rules[kind][1 - first]);
                DUE.is("may: " + rules[kind][first] + ", " + rules[kind][1 - first], room.may(1, acts[kind]),
                    new int[] {4, 5, 7, 8}[kind]);
            }
        }
    }

    private static void acts() {
        DUE.says("isolate(): from ASKED.");
        PermitRoom unsafe = new PermitRoom();
        unsafe.source(0, 0, true);
        Due.rule(unsafe, "hours cold 5 to 5");
        Due.rule(unsafe, "need cold test 1");
        unsafe.ask(0, 0, 0);
        DUE.is("isolate: no bar but the state", unsafe.isolate(0), 0);
        DUE.is("isolate: from isolated", unsafe.isolate(0), PermitRoom.BAR - 1);
        DUE.says("test(): from ISOLATED, TESTED, LIVE, HUNG");
        DUE.is("test: no bar but the state", unsafe.test(0, 50), 0);
        for (int state = 0; state < 6; state++) {
            DUE.is("test: from " + state, Due.inState(state).test(0, 0), state == 0 || state == 5 ? PermitRoom.BAR - 1 : 1);
        }
        DUE.says("(an ISOLATED one is TESTED then)");
        for (int state = 1; state < 5; state++) {
            PermitRoom room = Due.inState(state);
            room.test(0, 100);
            DUE.is("permitOf: state behind a test from " + state, room.permitOf(0, 3), state == 1 ? 2 : state);
        }
        DUE.says("start(): from ISOLATED, TESTED, HUNG: 2 to 6; it is LIVE.");
        for (int state = 0; state < 6; state++) {
            boolean goes = state == 1 || state == 2 || state == 4;
            PermitRoom room = Due.inState(state);
            DUE.is("start: from " + state, room.start(0), goes ? 1 : PermitRoom.BAR - 1);
            DUE.is("permitOf: state behind a start from " + state, room.permitOf(0, 3), goes ? 3 : state);
        }
        startIsNotBarredByMenOrWatch();
        endingActs();
    }

    private static void startIsNotBarredByMenOrWatch() {
        PermitRoom room = Due.inState(4);
        Due.rule(room, "watch cold 24");
        Due.rule(room, "men cold 1");
        DUE.is("start: 7 and 8 don't bar it", room.start(0), 1);
    }

    private static void endingActs() {
        DUE.says("hang(): from LIVE: 7; it is HUNG.");
        for (int state = 0; state < 6; state++) {
            PermitRoom room = Due.inState(state);
            room.source(0, 0, true);
            Due.rule(room, "watch cold 24");
            DUE.is("hang: from " + state, room.hang(0), state == 3 ? 1 : PermitRoom.BAR - 1);
            DUE.is("permitOf: state behind it", room.permitOf(0, 3), state == 3 ? 4 : state);
        }
        DUE.says("back(): from ISOLATED, TESTED, HUNG: 7, 8; it is BACK.");
        for (int state = 0; state < 6; state++) {
            boolean goes = state == 1 || state == 2 || state == 4;
            PermitRoom room = Due.inState(state);
            room.source(0, 0, true);
            Due.rule(room, "need cold test 1");
            DUE.is("back: from " + state, room.back(0), goes ? 0 : PermitRoom.BAR - 1);
            DUE.is("permitOf: state behind it", room.permitOf(0, 3), goes ? 5 : state);
        }
        DUE.says("enter(): from LIVE: 3, 5, 7.");
        for (int state = 0; state < 6; state++) {
            DUE.is("enter: from " + state, Due.inState(state).enter(1, 0), state == 3 ? 1 : PermitRoom.BAR - 1);
        }
        barsOfEnter();
    }

    private static void barsOfEnter() {
        PermitRoom room = Due.inState(3);
        Due.rule(room, "need cold test 1");
        Due.rule(room, "hours cold 1 to 1");
        Due.rule(room, "men cold 1");
        Due.rule(room, "bar cold cold within 9");
        Due.rule(room, "watch cold 24");
        DUE.is("enter: 3 of 3, 5", room.enter(1, 0), PermitRoom.BAR - 3);
        room.test(0, 0);
        DUE.is("enter: 5", room.enter(1, 0), PermitRoom.BAR - 5);
        room.go(1);
        DUE.is("enter: none", room.enter(1, 0), 1);
        DUE.is("enter: 7", room.enter(2, 0), PermitRoom.BAR - 7);
        room.go(1);
        DUE.is("enter: 3 of 3, 5, 7", room.enter(2, 0), PermitRoom.BAR - 3);
    }

    private static void history() {
        DUE.says("which FITTINGS were CLOSED, which PERMITS LIVE, as it ended");
        PermitRoom room = Due.roomOfValves(1);
        room.source(0, 0, true);
        room.turn(0, true);
        int permit = Due.ready(room, 1, 0, 0, 0);
        room.go(1);
        room.start(permit);
        room.turn(0, false);
        room.go(2);
        room.turn(0, true);
        room.go(1);
        room.hang(permit);
        room.start(permit);
        room.go(1);
        room.start(permit);
        room.hang(permit);
        room.go(1);
        int[] due = {2, 0, 0, 1, 1, 2, 2};
        for (int hour = 0; hour < due.length; hour++) {
            DUE.is("right: at hour " + hour, room.right(permit, hour, 6), due[hour]);
        }
        DUE.says("of NOW as it is now");
        room.start(permit);
        DUE.is("right: live now", room.right(permit, 6, 6), 1);
        room.turn(0, false);
        DUE.is("right: open now", room.right(permit, 6, 6), 0);
        room.hang(permit);
        DUE.is("right: hung now", room.right(permit, 6, 6), 2);
        Due.goTo(room, 300);
        room.turn(0, true);
        room.start(permit);
        DUE.is("right: at hour 300", room.right(permit, 300, 300), 1);
        DUE.is("right: at hour 299", room.right(permit, 299, 300), 2);
    }
}
