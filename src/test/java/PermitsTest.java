/** Promises 14 to 23: permits and the bars of their acts. */
public final class PermitsTest {
    private static final Due DUE = new Due();

    public static void main(String[] args) {
        asking();
        holding();
        isolating();
        testing();
        statesOfActs();
        safeBar();
        testBar();
        quarrelBar();
        quarrelDistances();
        hoursBar();
        holderBar();
        menBar();
        watchBar();
        leastBarCounts();
        goingBack();
        partsOfAPermit();
        DUE.end();
    }

    private static void asking() {
        PermitRoom room = new PermitRoom();
        room.pipe(0, 1, 0);
        room.pipe(0, 1, 2);
        room.pipe(0, 1, 1);
        int[][] wrong = {
            {-1, 0, 0}, {10, 0, 0}, {0, -1, 0}, {0, 3, 0}, {0, 0, 2}, {0, 0, 7}, {0, 0, 8}, {0, 0, -1},
            {0, 0, Integer.MIN_VALUE},
        };
        for (int[] w : wrong) {
            DUE.is("ask, wrong", room.ask(w[0], w[1], w[2]), PermitRoom.NUMBER);
        }
        for (int w = 0; w < 7; w++) {
            DUE.is("ask", room.ask(w, w % 3, w % 2 * 5), w);
        }
        DUE.is("ask: the eighth", room.ask(0, 0, 0), PermitRoom.FULL);
        DUE.is("ask: wrong is named ahead of full", room.ask(0, 3, 0), PermitRoom.NUMBER);
        room.isolate(0);
        room.back(0);
        DUE.is("ask: those that are back count", room.ask(0, 0, 0), PermitRoom.FULL);
        DUE.is("ask: how many", room.many(3), 7);
    }

    private static void holding() {
        PermitRoom room = new PermitRoom();
        room.ask(0, 0, 0);
        DUE.is("hold: no permit", room.hold(1, 0), -9);
        DUE.is("hold: no permit below", room.hold(-1, 0), -9);
        DUE.is("hold: no man", room.hold(0, 8), -9);
        DUE.is("hold: no man below", room.hold(0, -2), -9);
        DUE.is("hold: the first", room.hold(0, 7), -1);
        DUE.is("hold: another", room.hold(0, 0), 7);
        DUE.is("hold: none", room.hold(0, -1), 0);
        DUE.is("hold: none again", room.hold(0, -1), -1);
        room.shift(5, false);
        DUE.is("hold: one that is off", room.hold(0, 5), -1);
        room.hold(0, 2);
        room.isolate(0);
        room.start(0);
        DUE.is("hold: live, one that is off", room.hold(0, 5), PermitRoom.STATE);
        DUE.is("hold: live, none", room.hold(0, -1), PermitRoom.STATE);
        DUE.is("hold: refused, so still the same", room.permitOf(0, 4), 2);
        DUE.is("hold: live, one that is on", room.hold(0, 3), 2);
        room.hang(0);
        DUE.is("hold: hung, none", room.hold(0, -1), 3);
        room.back(0);
        DUE.is("hold: back", room.hold(0, 3), PermitRoom.STATE);
        DUE.is("hold: a number is named ahead of back", room.hold(0, 8), -9);
    }

    private static void isolating() {
        PermitRoom room = new PermitRoom();
        room.pipe(0, 1, 0);
        room.pipe(1, 2, 1);
        room.pipe(2, 3, 0);
        room.turn(0, true);
        room.ask(1, 0, 3);
        room.ask(1, 0, 6);
        DUE.is("isolate: none such", room.isolate(2), PermitRoom.NUMBER);
        DUE.is("isolate: below", room.isolate(-1), PermitRoom.NUMBER);
        DUE.is("isolate: one was closed by hand", room.isolate(0), 1);
        DUE.is("isolate: one was closed by a lock", room.isolate(1), 1);
        DUE.is("isolate: again", room.isolate(1), PermitRoom.BAR - 1);
        DUE.is("isolate: locks", room.many(10), 4);
        DUE.is("isolate: locks of one", room.of(1, 5), 2);
        DUE.is("isolate: closed", room.many(5), 3);
        DUE.is("isolate: state", room.permitOf(0, 3), 1);
    }

    private static void testing() {
        PermitRoom room = new PermitRoom();
        room.ask(0, 0, 0);
        DUE.is("test: asked", room.test(0, 5), PermitRoom.BAR - 1);
        DUE.is("test: asked, wrong", room.test(0, 101), PermitRoom.NUMBER);
        room.isolate(0);
        DUE.is("test: below", room.test(0, -1), PermitRoom.NUMBER);
        DUE.is("test: above", room.test(0, 101), PermitRoom.NUMBER);
        DUE.is("test: no permit", room.test(1, 5), PermitRoom.NUMBER);
        DUE.is("test: no permit below", room.test(-1, 5), PermitRoom.NUMBER);
        DUE.is("test: still isolated", room.permitOf(0, 3), 1);
        DUE.is("test: bad", room.test(0, 11), 0);
        DUE.is("test: tested, though bad", room.permitOf(0, 3), 2);
        DUE.is("test: the worst", room.test(0, 100), 0);
        DUE.is("test: just good", room.test(0, 10), 1);
        room.go(3);
        DUE.is("test: zero", room.test(0, 0), 1);
        DUE.is("test: the latest", room.permitOf(0, 6), 0);
        DUE.is("test: its hour", room.permitOf(0, 7), 3);
        room.hold(0, 0);
        room.start(0);
        DUE.is("test: live", room.test(0, 7), 1);
        DUE.is("test: still live", room.permitOf(0, 3), 3);
        room.hang(0);
        DUE.is("test: hung", room.test(0, 8), 1);
        DUE.is("test: still hung", room.permitOf(0, 3), 4);
        room.back(0);
        DUE.is("test: back", room.test(0, 8), PermitRoom.BAR - 1);
    }

    /** Each act in each state, without any other bar: 0 where it goes, else the bar 1. */
    private static void statesOfActs() {
        String[] goes = {"0", "1234", "124", "3", "124", "3"};
        for (int state = 0; state < 6; state++) {
            PermitRoom room = Due.inState(state);
            DUE.is("state", room.permitOf(0, 3), state);
            for (int act = 0; act < 6; act++) {
                int due = goes[act].indexOf('0' + state) >= 0 ? 0 : 1;
                DUE.is("may(0, " + act + ") in state " + state, room.may(0, act), due);
            }
        }
        PermitRoom room = Due.inState(0);
        DUE.is("may: no permit", room.may(1, 0), PermitRoom.NUMBER);
        DUE.is("may: no permit below", room.may(-1, 0), PermitRoom.NUMBER);
        DUE.is("may: no act", room.may(0, 6), PermitRoom.NUMBER);
        DUE.is("may: no act below", room.may(0, -1), PermitRoom.NUMBER);
        for (int wrong = -1; wrong < 2; wrong += 2) {
            DUE.is("start: none such", room.start(wrong), PermitRoom.NUMBER);
            DUE.is("hang: none such", room.hang(wrong), PermitRoom.NUMBER);
            DUE.is("back: none such", room.back(wrong), PermitRoom.NUMBER);
        }
        DUE.is("start: asked", room.start(0), PermitRoom.BAR - 1);
        DUE.is("hang: asked", room.hang(0), PermitRoom.BAR - 1);
        DUE.is("back: asked", room.back(0), PermitRoom.BAR - 1);
        DUE.is("enter: asked", room.enter(0, 0), PermitRoom.BAR - 1);
    }

    private static void safeBar() {
        PermitRoom room = new PermitRoom();
        room.pipe(0, 1, 0);
        room.pipe(0, 1, 1);
        room.source(0, 0, true);
        int half = Due.ready(room, 1, 0, 1, 0);
        DUE.is("start: not parted", room.start(half), PermitRoom.BAR - 2);
        room.turn(1, true);
        DUE.is("start: parted", room.start(half), 1);
        room.hang(half);
        Due.rule(room, "double gas");
        DUE.is("start: parted once only", room.start(half), PermitRoom.BAR - 2);
    }

    private static void testBar() {
        PermitRoom room = new PermitRoom();
        Due.rule(room, "need hot test 3");
        Due.rule(room, "need hot test 2");
        Due.rule(room, "need cold test 1");
        int hot = room.ask(0, 1, 0);
        room.hold(hot, 0);
        room.isolate(hot);
        DUE.is("start: no test", room.start(hot), PermitRoom.BAR - 3);
        room.test(hot, 11);
        DUE.is("start: no good test", room.start(hot), PermitRoom.BAR - 3);
        room.test(hot, 10);
        room.go(2);
        DUE.is("may: just not too old", room.may(hot, 2), 0);
        room.go(1);
        DUE.is("may: too old for one rule", room.may(hot, 2), 3);
        room.strike(1);
        DUE.is("start: not too old for the other", room.start(hot), 1);
        DUE.is("enter: nor to enter", room.may(hot, 5), 0);
        room.go(1);
        DUE.is("enter: too old", room.enter(0, hot), PermitRoom.BAR - 3);
        room.test(hot, 11);
        DUE.is("enter: no good test", room.may(hot, 5), 3);
        room.test(hot, 3);
        DUE.is("enter: tested", room.enter(0, hot), 1);
        int vessel = room.ask(0, 2, 0);
        room.hold(vessel, 1);
        room.isolate(vessel);
        DUE.is("start: another sort needs none", room.start(vessel), 1);
    }

    private static void quarrelBar() {
        PermitRoom room = new PermitRoom();
        room.pipe(0, 1, 0);
        Due.rule(room, "bar hot vessel within 1");
        int hot = Due.ready(room, 0, 1, 0, 0);
        int vessel = Due.ready(room, 1, 2, 0, 1);
        int cold = Due.ready(room, 1, 0, 0, 2);
        DUE.is("quarrels: none is live", room.quarrels(hot), PermitRoom.NONE);
        room.start(hot);
        DUE.is("quarrels: the other way round", room.quarrels(vessel), hot);
        DUE.is("quarrels: not with itself", room.quarrels(hot), PermitRoom.NONE);
        DUE.is("quarrels: another sort", room.quarrels(cold), PermitRoom.NONE);
        int alike = room.ask(0, 1, 0);
        DUE.is("quarrels: the same sort isn't barred", room.quarrels(alike), PermitRoom.NONE);
        DUE.is("start: a quarrel", room.start(vessel), PermitRoom.BAR - 4);
        DUE.is("start: no quarrel", room.start(cold), 1);
        room.hang(hot);
        DUE.is("start: it hangs", room.start(vessel), 1);
        DUE.is("start: as told", room.start(hot), PermitRoom.BAR - 4);
        DUE.is("quarrels: the vessel", room.quarrels(hot), vessel);
        room.strike(0);
        DUE.is("quarrels: struck", room.quarrels(hot), PermitRoom.NONE);
        Due.rule(room, "bar hot cold within 9");
        Due.rule(room, "bar hot vessel within 9");
        DUE.is("quarrels: the least of two", room.quarrels(hot), vessel);
        DUE.is("quarrels: none such", room.quarrels(4), PermitRoom.NUMBER);
        DUE.is("quarrels: below", room.quarrels(-1), PermitRoom.NUMBER);
        int asked = room.ask(1, 1, 0);
        DUE.is("quarrels: of one that is only asked", room.quarrels(asked), vessel);
    }

    private static void quarrelDistances() {
        PermitRoom room = new PermitRoom();
        room.pipe(0, 1, 0);
        room.pipe(1, 2, 0);
        Due.rule(room, "bar hot hot within 0");
        int here = Due.live(room, 0, 1, 0, 0);
        int same = Due.ready(room, 0, 1, 0, 1);
        int near = Due.ready(room, 1, 1, 0, 2);
        int far = Due.ready(room, 2, 1, 0, 3);
        int away = Due.ready(room, 9, 1, 0, 4);
        DUE.is("quarrels: the same place", room.quarrels(same), here);
        DUE.is("quarrels: one apart is not within 0", room.quarrels(near), PermitRoom.NONE);
        Due.rule(room, "bar hot hot within 1");
        DUE.is("quarrels: one apart", room.quarrels(near), here);
        DUE.is("quarrels: two apart is not within 1", room.quarrels(far), PermitRoom.NONE);
        Due.rule(room, "bar hot hot within 9");
        room.turn(0, true);
        DUE.is("quarrels: two apart, closed or not", room.quarrels(far), here);
        DUE.is("quarrels: no row at all", room.quarrels(away), PermitRoom.NONE);
        room.pipe(0, 9, 2);
        DUE.is("quarrels: a new pipe", room.quarrels(away), here);
    }

    private static void hoursBar() {
        PermitRoom room = new PermitRoom();
        Due.rule(room, "hours cold 2 to 4");
        Due.rule(room, "hours hot 22 to 1");
        Due.rule(room, "hours vessel 5 to 5");
        for (int sort = 0; sort < 3; sort++) {
            Due.ready(room, 0, sort, 0, sort);
        }
        for (int hour = 0; hour < 50; hour++) {
            int ofDay = hour % 24;
            DUE.is("may: cold at " + hour, room.may(0, 2), ofDay >= 2 && ofDay <= 4 ? 0 : 5);
            DUE.is("may: hot at " + hour, room.may(1, 2), ofDay >= 22 || ofDay <= 1 ? 0 : 5);
            DUE.is("may: vessel at " + hour, room.may(2, 2), ofDay == 5 ? 0 : 5);
            room.go(1);
        }
        DUE.is("start: within hours", room.start(0), 1);
        DUE.is("start: off hours", room.start(1), PermitRoom.BAR - 5);
        room.go(3);
        DUE.is("enter: off hours", room.enter(0, 0), PermitRoom.BAR - 5);
        DUE.is("hang: at any hour", room.hang(0), 1);
        Due.rule(room, "hours vessel 0 to 23");
        DUE.is("may: all rules count", room.may(2, 2), 0);
        Due.rule(room, "hours vessel 6 to 4");
        DUE.is("may: all rules count, another", room.may(2, 2), 5);
    }

    private static void holderBar() {
        PermitRoom room = new PermitRoom();
        room.ask(0, 0, 0);
        room.isolate(0);
        DUE.is("start: no holder", room.start(0), PermitRoom.BAR - 6);
        room.hold(0, 4);
        room.shift(4, false);
        DUE.is("start: the holder is off", room.start(0), PermitRoom.BAR - 6);
        room.shift(4, true);
        DUE.is("start: the holder is on", room.start(0), 1);
        DUE.is("start: again", room.start(0), PermitRoom.BAR - 1);
    }

    private static void menBar() {
        PermitRoom room = new PermitRoom();
        Due.rule(room, "men cold 3");
        Due.rule(room, "men cold 2");
        Due.live(room, 0, 0, 0, 0);
        Due.live(room, 0, 1, 0, 0);
        DUE.is("enter: the first", room.enter(1, 0), 1);
        DUE.is("hang: one is inside", room.hang(0), PermitRoom.BAR - 7);
        DUE.is("hang: none is inside for that one", room.hang(1), 1);
        DUE.is("enter: the second", room.enter(2, 0), 2);
        DUE.is("enter: the third", room.enter(3, 0), PermitRoom.BAR - 7);
        room.strike(1);
        DUE.is("enter: the third may now", room.enter(3, 0), 3);
        DUE.is("enter: the fourth", room.enter(4, 0), PermitRoom.BAR - 7);
        Due.rule(room, "men cold 1");
        DUE.is("may: more are inside than may be", room.may(0, 5), 7);
        room.leave(1);
        room.leave(2);
        room.leave(3);
        DUE.is("hang: none is inside", room.hang(0), 1);
    }

    private static void watchBar() {
        PermitRoom room = new PermitRoom();
        Due.rule(room, "watch hot 3");
        Due.rule(room, "watch hot 1");
        int hot = Due.live(room, 0, 1, 0, 0);
        int cold = Due.live(room, 0, 0, 0, 0);
        int never = Due.ready(room, 0, 1, 0, 0);
        DUE.is("back: never live", room.back(never), 0);
        room.go(4);
        room.hang(hot);
        room.hang(cold);
        DUE.is("back: another sort", room.back(cold), 0);
        DUE.is("back: at once", room.back(hot), PermitRoom.BAR - 8);
        room.go(2);
        DUE.is("back: two hours", room.back(hot), PermitRoom.BAR - 8);
        room.start(hot);
        room.go(1);
        room.siren();
        room.go(2);
        DUE.is("may: it was live again", room.may(hot, 4), 8);
        room.go(1);
        DUE.is("back: three hours", room.back(hot), 0);
    }

    private static void leastBarCounts() {
        PermitRoom room = new PermitRoom();
        room.pipe(0, 1, 0);
        room.source(0, 0, true);
        Due.rule(room, "need hot test 1");
        Due.rule(room, "bar hot hot within 9");
        Due.rule(room, "hours hot 5 to 6");
        room.ask(1, 1, 0);
        room.ask(1, 1, 0);
        DUE.is("start: 1 of all", room.start(0), PermitRoom.BAR - 1);
        room.isolate(0);
        DUE.is("start: 2 of 2, 3, 5, 6", room.start(0), PermitRoom.BAR - 2);
        room.turn(0, true);
        DUE.is("start: 3 of 3, 5, 6", room.start(0), PermitRoom.BAR - 3);
        room.test(0, 0);
        DUE.is("start: 5 of 5, 6", room.start(0), PermitRoom.BAR - 5);
        room.go(5);
        room.test(0, 0);
        DUE.is("start: 6", room.start(0), PermitRoom.BAR - 6);
        room.hold(0, 0);
        DUE.is("start: none", room.start(0), 1);
        room.isolate(1);
        room.test(1, 0);
        DUE.is("start: 4 of 4, 6", room.start(1), PermitRoom.BAR - 4);
        Due.rule(room, "men hot 1");
        room.enter(0, 0);
        DUE.is("enter: 7", room.may(0, 5), 7);
        room.go(2);
        DUE.is("enter: 3 of 3, 5, 7", room.may(0, 5), 3);
        room.test(0, 0);
        DUE.is("enter: 5 of 5, 7", room.may(0, 5), 5);
    }

    private static void goingBack() {
        PermitRoom room = new PermitRoom();
        room.pipe(0, 1, 0);
        room.pipe(1, 2, 1);
        room.pipe(2, 3, 0);
        room.turn(0, true);
        room.ask(1, 0, 7);
        room.ask(1, 0, 2);
        room.isolate(0);
        room.isolate(1);
        DUE.is("back: one by hand, one locked still", room.back(0), 1);
        DUE.is("back: locks", room.many(10), 1);
        DUE.is("back: closed", room.many(5), 2);
        DUE.is("back: again", room.back(0), PermitRoom.BAR - 1);
        DUE.is("back: the last lock", room.back(1), 1);
        DUE.is("back: state", room.permitOf(1, 3), 5);
        DUE.is("isolate: from back", room.isolate(1), PermitRoom.BAR - 1);
    }

    private static void partsOfAPermit() {
        PermitRoom room = new PermitRoom();
        room.pipe(3, 4, 0);
        room.pipe(3, 4, 1);
        room.ask(6, 2, 3);
        parts(room, 6, 2, 3, 0, -3, 0, -3, -3, -3);
        room.hold(0, 0);
        room.go(2);
        room.isolate(0);
        room.test(0, 9);
        parts(room, 6, 2, 3, 2, 0, 0, 9, 2, -3);
        room.start(0);
        room.go(3);
        room.enter(5, 0);
        room.enter(6, 0);
        parts(room, 6, 2, 3, 3, 0, 2, 9, 2, 5);
        room.go(1);
        room.siren();
        room.go(4);
        parts(room, 6, 2, 3, 4, 0, 0, 9, 2, 6);
        room.back(0);
        parts(room, 6, 2, 3, 5, 0, 0, 9, 2, 6);
        DUE.is("permitOf(0, 9)", room.permitOf(0, 9), PermitRoom.NUMBER);
        DUE.is("permitOf(0, -1)", room.permitOf(0, -1), PermitRoom.NUMBER);
        DUE.is("permitOf(1, 0)", room.permitOf(1, 0), PermitRoom.NUMBER);
        DUE.is("permitOf(-1, 0)", room.permitOf(-1, 0), PermitRoom.NUMBER);
    }

    private static void parts(PermitRoom room, int... due) {
        for (int what = 0; what < due.length; what++) {
            DUE.is("permitOf(0, " + what + ")", room.permitOf(0, what), due[what]);
        }
    }
}
