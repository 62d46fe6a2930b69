import java.io.IOException;

/** Promises 14 to 27, permits and men: each sentence that names an edge has answers of its own. */
public final class PromisesPermitsTest {
    private static final Due DUE = new Due();
    private static final int[] NO_PERMITS = {-1, 1, 7, 31, 32, Integer.MIN_VALUE, Integer.MAX_VALUE};
    private static final int[] NO_MEN = {-1, 8, 31, 32, Integer.MIN_VALUE, Integer.MAX_VALUE};

    public static void main(String[] args) throws IOException {
        ask();
        hold();
        isolate();
        test();
        start();
        hang();
        back();
        may();
        quarrels();
        permitOf();
        enter();
        leave();
        shift();
        siren();
        DUE.quotedFrom(args);
        DUE.end();
    }

    private static void ask() {
        DUE.says("A PERMIT comes: its number. NUMBER: there is no such PLACE, SORT, or a bit of set is no PIPE,"
            + " or one with FITTING 2; FULL.");
        PermitRoom room = new PermitRoom();
        room.pipe(0, 1, 2);
        room.pipe(0, 1, 0);
        for (int wrong : new int[] {-1, 10, Integer.MIN_VALUE, Integer.MAX_VALUE}) {
            DUE.is("ask: place " + wrong, room.ask(wrong, 0, 0), PermitRoom.NUMBER);
        }
        for (int wrong : new int[] {-1, 3, Integer.MIN_VALUE, Integer.MAX_VALUE}) {
            DUE.is("ask: sort " + wrong, room.ask(0, wrong, 0), PermitRoom.NUMBER);
        }
        for (int wrong : new int[] {1, 3, 4, 6, 1 << 12, 1 << 31, -1, -2, 2 | 1 << 31, Integer.MAX_VALUE}) {
            DUE.is("ask: set " + wrong, room.ask(0, 0, wrong), PermitRoom.NUMBER);
        }
        DUE.is("many: none came", room.many(3), 0);
        DUE.is("ask: the least of all", room.ask(0, 0, 0), 0);
        DUE.is("ask: the most of all", room.ask(9, 2, 2), 1);
        for (int w = 2; w < 7; w++) {
            DUE.is("ask " + w, room.ask(0, 0, 0), w);
        }
        DUE.is("ask: full", room.ask(0, 0, 0), PermitRoom.FULL);
    }

    private static void hold() {
        DUE.says("The HOLDER of a PERMIT (-1: none): who it was (-1).");
        PermitRoom room = new PermitRoom();
        room.ask(0, 0, 0);
        DUE.is("hold: man 0, none was", room.hold(0, 0), -1);
        DUE.is("hold: man 7, 0 was", room.hold(0, 7), 0);
        DUE.is("hold: the same again", room.hold(0, 7), 7);
        DUE.is("hold: none, 7 was", room.hold(0, -1), 7);
        DUE.is("hold: none, none was", room.hold(0, -1), -1);
        DUE.is("hold: though -1 was answered", room.hold(0, 3), -1);
        DUE.is("permitOf: he holds it", room.permitOf(0, 4), 3);
        DUE.says("NUMBER is answered as -9: there is no such PERMIT, MAN");
        for (int wrong : NO_PERMITS) {
            DUE.is("hold: permit " + wrong, room.hold(wrong, 0), -9);
            DUE.is("hold: permit " + wrong + ", none", room.hold(wrong, -1), -9);
        }
        for (int wrong : new int[] {-2, 8, 31, 32, Integer.MIN_VALUE, Integer.MAX_VALUE}) {
            DUE.is("hold: man " + wrong, room.hold(0, wrong), -9);
        }
        DUE.says("STATE: it is BACK, or LIVE and the MAN off, or none.");
        for (int state = 0; state < 6; state++) {
            holdInState(state);
        }
    }

    private static void holdInState(int state) {
        PermitRoom room = Due.inState(state);
        room.shift(5, false);
        String in = " in state " + state;
        DUE.is("hold: one that is on" + in, room.hold(0, 7), state == 5 ? PermitRoom.STATE : 0);
        DUE.is("hold: one that is off" + in, room.hold(0, 5), state == 5 || state == 3 ? PermitRoom.STATE : 7);
        DUE.is("hold: none" + in, room.hold(0, -1), state == 5 || state == 3 ? PermitRoom.STATE : 5);
        int[] due = {PermitRoom.NONE, PermitRoom.NONE, PermitRoom.NONE, 7, PermitRoom.NONE, 0};
        DUE.is("permitOf: holder" + in, room.permitOf(0, 4), due[state]);
    }

    private static void isolate() {
        DUE.says("It is ISOLATED: how many FITTINGS become CLOSED. NUMBER: there is none such; BAR.");
        PermitRoom room = Due.roomOfValves(12);
        room.turn(3, true);
        DUE.is("isolate: none in its set", room.isolate(room.ask(0, 0, 0)), 0);
        DUE.is("isolate: one was closed by hand", room.isolate(room.ask(0, 0, 0b1100)), 1);
        DUE.is("isolate: two were closed", room.isolate(room.ask(0, 0, 4095)), 10);
        DUE.is("isolate: all were closed", room.isolate(room.ask(0, 0, 4095)), 0);
        DUE.is("isolate: again", room.isolate(3), PermitRoom.BAR - 1);
        PermitRoom one = Due.inState(0);
        for (int wrong : NO_PERMITS) {
            DUE.is("isolate(" + wrong + ")", one.isolate(wrong), PermitRoom.NUMBER);
        }
        DUE.is("isolate: no permits", new PermitRoom().isolate(0), PermitRoom.NUMBER);
    }

    private static void test() {
        DUE.says("A TEST: 1 if it is GOOD, else 0. NUMBER: there is no such PERMIT, or v isn't 0 to 100; BAR.");
        PermitRoom room = Due.inState(1);
        DUE.is("test: 0", room.test(0, 0), 1);
        DUE.is("test: 10", room.test(0, 10), 1);
        DUE.is("test: 11", room.test(0, 11), 0);
        DUE.is("test: 100", room.test(0, 100), 0);
        for (int wrong : new int[] {-1, 101, Integer.MIN_VALUE, Integer.MAX_VALUE}) {
            DUE.is("test: v = " + wrong, room.test(0, wrong), PermitRoom.NUMBER);
        }
        DUE.is("permitOf: the latest is 100", room.permitOf(0, 6), 100);
        for (int wrong : NO_PERMITS) {
            DUE.is("test: permit " + wrong, room.test(wrong, 0), PermitRoom.NUMBER);
        }
        DUE.is("test: asked", Due.inState(0).test(0, 0), PermitRoom.BAR - 1);
        DUE.is("test: back", Due.inState(5).test(0, 0), PermitRoom.BAR - 1);
    }

    private static void start() {
        DUE.says("It is LIVE: 1. NUMBER: there is none such; BAR.");
        PermitRoom room = Due.inState(2);
        for (int wrong : NO_PERMITS) {
            DUE.is("start(" + wrong + ")", room.start(wrong), PermitRoom.NUMBER);
        }
        DUE.is("start: none such, no permits", new PermitRoom().start(0), PermitRoom.NUMBER);
        DUE.is("start", room.start(0), 1);
        DUE.is("many: one is live", room.many(4), 1);
        DUE.is("start: again", room.start(0), PermitRoom.BAR - 1);
    }

    private static void hang() {
        DUE.says("It is HUNG: 1. NUMBER, BAR likewise.");
        PermitRoom room = Due.inState(3);
        for (int wrong : NO_PERMITS) {
            DUE.is("hang(" + wrong + ")", room.hang(wrong), PermitRoom.NUMBER);
        }
        room.enter(0, 0);
        DUE.is("hang: somebody is inside", room.hang(0), PermitRoom.BAR - 7);
        room.leave(0);
        DUE.is("hang", room.hang(0), 1);
        DUE.is("hang: again", room.hang(0), PermitRoom.BAR - 1);
    }

    private static void back() {
        DUE.says("It is BACK, its LOCKS are off: how many FITTINGS become open. NUMBER, BAR likewise.");
        PermitRoom room = Due.roomOfValves(12);
        room.turn(0, true);
        room.isolate(room.ask(0, 0, 4095));
        room.isolate(room.ask(0, 0, 0b110));
        room.isolate(room.ask(0, 0, 0));
        for (int wrong : new int[] {-1, 3, 7, Integer.MIN_VALUE, Integer.MAX_VALUE}) {
            DUE.is("back(" + wrong + ")", room.back(wrong), PermitRoom.NUMBER);
        }
        DUE.is("back: none in its set", room.back(2), 0);
        DUE.is("back: but for one by hand and two locked", room.back(0), 9);
        DUE.is("many: locks that are left", room.many(10), 2);
        DUE.is("back: the last two", room.back(1), 2);
        DUE.is("many: no locks", room.many(10), 0);
        DUE.is("back: again", room.back(1), PermitRoom.BAR - 1);
        DUE.is("many: closed by hand still", room.many(5), 1);
        PermitRoom watched = Due.inState(4);
        Due.rule(watched, "watch cold 1");
        DUE.is("back: watched", watched.back(0), PermitRoom.BAR - 8);
    }

    private static void may() {
        DUE.says("The first BAR of an act (0 isolate, 1 test, 2 start, 3 hang, 4 back, 5 enter) of a PERMIT NOW; 0: none.");
        PermitRoom room = Due.inState(0);
        int[] due = {0, 1, 1, 1, 1, 1};
        for (int act = 0; act < 6; act++) {
            DUE.is("may: act " + act, room.may(0, act), due[act]);
        }
        DUE.is("permitOf: nothing was done", room.permitOf(0, 3), 0);
        for (int state = 0; state < 6; state++) {
            mayIsAsDone(state);
        }
        DUE.says("NUMBER: there is no such PERMIT, act.");
        for (int wrong : NO_PERMITS) {
            DUE.is("may: permit " + wrong, room.may(wrong, 0), PermitRoom.NUMBER);
        }
        for (int wrong : new int[] {-1, 6, 31, 32, Integer.MIN_VALUE, Integer.MAX_VALUE}) {
            DUE.is("may: act " + wrong, room.may(0, wrong), PermitRoom.NUMBER);
        }
    }

    /** What may() tells is what the act answers, in each state and for each act. */
    private static void mayIsAsDone(int state) {
        for (int act = 0; act < 6; act++) {
            PermitRoom room = Due.inState(state);
            int bar = room.may(0, act);
            int answer = done(room, act);
            DUE.is("act " + act + " in state " + state, answer < 0 ? PermitRoom.BAR - answer : 0, bar);
        }
    }

    private static int done(PermitRoom room, int act) {
        switch (act) {
            case 0:
                return room.isolate(0);
            case 1:
                return room.test(0, 0);
            case 2:
                return room.start(0);
            case 3:
                return room.hang(0);
            case 4:
                return room.back(0);
            default:
                return room.enter(1, 0);
        }
    }

    private static void quarrels() {
        DUE.says("The other PERMIT, the least, for which start() of one would have the BAR 4.");
        PermitRoom room = new PermitRoom();
        for (int w = 0; w < 7; w++) {
            Due.ready(room, 0, 1, 0, 0);
        }
        room.start(6);
        room.start(4);
        room.start(5);
        Due.rule(room, "bar hot hot within 0");
        for (int w = 0; w < 7; w++) {
            DUE.is("quarrels: of " + w, room.quarrels(w), w == 4 ? 5 : 4);
        }
        room.hang(4);
        DUE.is("quarrels: the least is hung", room.quarrels(0), 5);
        DUE.says("NUMBER: there is none such; NONE: there is no such other one.");
        PermitRoom one = Due.inState(3);
        Due.rule(one, "bar cold cold within 9");
        DUE.is("quarrels: only itself is live", one.quarrels(0), PermitRoom.NONE);
        for (int wrong : NO_PERMITS) {
            DUE.is("quarrels(" + wrong + ")", one.quarrels(wrong), PermitRoom.NUMBER);
        }
    }

    private static void permitOf() {
        DUE.says("4 HOLDER (NONE), 5 how many are inside, 6 its latest TEST (NONE), 7 the HOUR of that (NONE)");
        PermitRoom room = new PermitRoom();
        room.ask(9, 2, 0);
        int[] first = {9, 2, 0, 0, PermitRoom.NONE, 0, PermitRoom.NONE, PermitRoom.NONE, PermitRoom.NONE};
        for (int what = 0; what < first.length; what++) {
            DUE.is("permitOf: at first, " + what, room.permitOf(0, what), first[what]);
        }
        room.hold(0, 0);
        room.isolate(0);
        room.test(0, 0);
        DUE.is("permitOf: man 0 holds it", room.permitOf(0, 4), 0);
        DUE.is("permitOf: a test of 0", room.permitOf(0, 6), 0);
        DUE.is("permitOf: at hour 0", room.permitOf(0, 7), 0);
        room.start(0);
        for (int man = 0; man < 8; man++) {
            room.enter(man, 0);
        }
        DUE.is("permitOf: all eight are inside", room.permitOf(0, 5), 8);
        liveLast();
        DUE.says("NUMBER: there is none such, what.");
        for (int wrong : NO_PERMITS) {
            DUE.is("permitOf: permit " + wrong, room.permitOf(wrong, 0), PermitRoom.NUMBER);
        }
        for (int wrong : new int[] {-1, 9, Integer.MIN_VALUE, Integer.MAX_VALUE}) {
            DUE.is("permitOf: what " + wrong, room.permitOf(0, wrong), PermitRoom.NUMBER);
        }
    }

    private static void liveLast() {
        DUE.says("8 the HOUR at which it was LIVE last (NONE: never; NOW, if it is)");
        PermitRoom room = Due.inState(2);
        room.go(1);
        DUE.is("permitOf: never", room.permitOf(0, 8), PermitRoom.NONE);
        room.start(0);
        DUE.is("permitOf: live since now", room.permitOf(0, 8), 1);
        room.go(2);
        DUE.is("permitOf: live still", room.permitOf(0, 8), 3);
        room.hang(0);
        room.go(2);
        DUE.is("permitOf: live till 3", room.permitOf(0, 8), 3);
        room.start(0);
        DUE.is("permitOf: live again", room.permitOf(0, 8), 5);
        room.siren();
        room.go(1);
        room.back(0);
        DUE.is("permitOf: live till 5", room.permitOf(0, 8), 5);
        PermitRoom atFirst = Due.inState(4);
        atFirst.go(1);
        DUE.is("permitOf: live in hour 0 only", atFirst.permitOf(0, 8), 0);
    }

    private static void enter() {
        DUE.says("A MAN goes inside for a PERMIT: how many are inside for it.");
        PermitRoom room = Due.inState(3);
        for (int man = 0; man < 8; man++) {
            DUE.is("enter: man " + man, room.enter(man, 0), man + 1);
        }
        DUE.says("NUMBER: there is no such MAN, PERMIT; STATE: the MAN is off, or inside somewhere; BAR.");
        for (int wrong : NO_MEN) {
            DUE.is("enter: man " + wrong, room.enter(wrong, 0), PermitRoom.NUMBER);
        }
        for (int wrong : NO_PERMITS) {
            DUE.is("enter: permit " + wrong, room.enter(0, wrong), PermitRoom.NUMBER);
        }
        Due.live(room, 1, 0, 0, 0);
        DUE.is("enter: inside for the same", room.enter(3, 0), PermitRoom.STATE);
        DUE.is("enter: inside for another", room.enter(3, 1), PermitRoom.STATE);
        room.leave(3);
        DUE.is("enter: he came out", room.enter(3, 1), 1);
        room.leave(3);
        room.shift(3, false);
        DUE.is("enter: he is off", room.enter(3, 1), PermitRoom.STATE);
        room.shift(3, true);
        room.hang(1);
        DUE.is("enter: barred", room.enter(3, 1), PermitRoom.BAR - 1);
    }

    private static void leave() {
        DUE.says("A MAN comes OUT: for which PERMIT he was inside. NUMBER: there is none such; STATE: he is OUT.");
        PermitRoom room = new PermitRoom();
        for (int w = 0; w < 7; w++) {
            Due.live(room, 0, 0, 0, 0);
        }
        room.enter(0, 6);
        room.enter(7, 0);
        for (int wrong : NO_MEN) {
            DUE.is("leave(" + wrong + ")", room.leave(wrong), PermitRoom.NUMBER);
        }
        DUE.is("leave: never inside", room.leave(1), PermitRoom.STATE);
        DUE.is("leave: man 0", room.leave(0), 6);
        DUE.is("leave: man 0 again", room.leave(0), PermitRoom.STATE);
        DUE.is("leave: man 7", room.leave(7), 0);
        DUE.is("leave: man 7 again", room.leave(7), PermitRoom.STATE);
        DUE.is("many: none inside", room.many(6), 0);
    }

    private static void shift() {
        DUE.says("A MAN is ON shift, or off: 1. NUMBER: there is none such");
        PermitRoom room = Due.inState(3);
        DUE.is("shift: man 7 off", room.shift(7, false), 1);
        DUE.is("shift: man 7 on", room.shift(7, true), 1);
        for (int wrong : NO_MEN) {
            DUE.is("shift: on, " + wrong, room.shift(wrong, true), PermitRoom.NUMBER);
            DUE.is("shift: off, " + wrong, room.shift(wrong, false), PermitRoom.NUMBER);
        }
        DUE.says("STATE: it is so already, or off: he is inside, or HOLDS one that is LIVE.");
        DUE.is("shift: on already", room.shift(7, true), PermitRoom.STATE);
        room.shift(6, false);
        DUE.is("shift: off already", room.shift(6, false), PermitRoom.STATE);
        DUE.is("shift: on, though others are on", room.shift(6, true), 1);
        DUE.is("shift: holds a live one", room.shift(0, false), PermitRoom.STATE);
        room.enter(1, 0);
        DUE.is("shift: inside", room.shift(1, false), PermitRoom.STATE);
        room.leave(1);
        DUE.is("shift: out", room.shift(1, false), 1);
        for (int state = 0; state < 6; state++) {
            DUE.is("shift: holds one in state " + state, Due.inState(state).shift(0, false),
                state == 3 ? PermitRoom.STATE : 1);
        }
    }

    private static void siren() {
        DUE.says("THE SIREN: all MEN come OUT, all that are LIVE are HUNG: how many MEN came OUT.");
        PermitRoom room = new PermitRoom();
        DUE.is("siren: nobody", room.siren(), 0);
        for (int state = 0; state < 6; state++) {
            PermitRoom other = Due.inState(state);
            DUE.is("siren: nobody inside, state " + state, other.siren(), 0);
            DUE.is("permitOf: state", other.permitOf(0, 3), state == 3 ? 4 : state);
        }
        for (int w = 0; w < 7; w++) {
            Due.live(room, 0, 0, 0, 0);
        }
        for (int man = 0; man < 8; man++) {
            room.enter(man, man < 7 ? man : 6);
        }
        DUE.is("siren: all eight", room.siren(), 8);
        DUE.is("many: none inside", room.many(6), 0);
        DUE.is("many: none live", room.many(4), 0);
        for (int w = 0; w < 7; w++) {
            DUE.is("permitOf: hung", room.permitOf(w, 3), 4);
        }
        DUE.is("siren: again", room.siren(), 0);
    }
}
