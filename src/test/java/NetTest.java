/** Promises 1 to 9: a new object, and the net. */
public final class NetTest {
    private static final Due DUE = new Due();

    public static void main(String[] args) {
        newObject();
        pipes();
        partsOfAPipe();
        sources();
        turning();
        lockedFittings();
        safety();
        doubledHazards();
        fewestBarriers();
        pipesApart();
        hoursGoBy();
        DUE.end();
    }

    private static void newObject() {
        PermitRoom room = new PermitRoom();
        int[] due = {0, 0, 0, 0, 0, 0, 0, 8, 0, 0, 0};
        for (int what = 0; what < due.length; what++) {
            DUE.is("new: many(" + what + ")", room.many(what), due[what]);
        }
        for (int place = 0; place < 10; place++) {
            DUE.is("new: safe(" + place + ")", room.safe(place), 1);
        }
        DUE.is("new: check()", room.check(), PermitRoom.NONE);
        DUE.is("new: ordered(0)", room.ordered(0), PermitRoom.NONE);
        DUE.is("new: drop()", room.drop(), PermitRoom.NONE);
        DUE.is("new: of(0, 0)", room.of(0, 0), PermitRoom.NUMBER);
        DUE.is("new: ruleOf(0, 0)", room.ruleOf(0, 0), PermitRoom.NUMBER);
        DUE.is("new: permitOf(0, 0)", room.permitOf(0, 0), PermitRoom.NUMBER);
        PermitRoom other = new PermitRoom();
        other.pipe(0, 1, 0);
        DUE.is("new: many(1) beside another room", room.many(1), 0);
    }

    private static void pipes() {
        PermitRoom room = new PermitRoom();
        int[][] wrong = {{-1, 0, 0}, {0, -1, 0}, {10, 0, 0}, {0, 10, 0}, {3, 3, 0}, {0, 1, -1}, {0, 1, 3}};
        for (int[] w : wrong) {
            DUE.is("pipe, wrong", room.pipe(w[0], w[1], w[2]), PermitRoom.NUMBER);
        }
        DUE.is("pipe: how many after wrong ones", room.many(1), 0);
        for (int i = 0; i < 12; i++) {
            DUE.is("pipe " + i, room.pipe(i % 10, (i + 1) % 10, i % 3), i);
        }
        DUE.is("pipe: the 13th", room.pipe(0, 1, 0), PermitRoom.FULL);
        DUE.is("pipe: wrong is named ahead of full", room.pipe(0, 0, 0), PermitRoom.NUMBER);
        DUE.is("pipe: how many", room.many(1), 12);
    }

    private static void partsOfAPipe() {
        PermitRoom room = new PermitRoom();
        room.pipe(7, 2, 1);
        room.go(5);
        room.pipe(1, 9, 2);
        int[] due = {7, 2, 1, 0, 0, 0};
        int[] dueOfSecond = {1, 9, 2, 5, 0, 0};
        for (int what = 0; what < 6; what++) {
            DUE.is("of(0, " + what + ")", room.of(0, what), due[what]);
            DUE.is("of(1, " + what + ")", room.of(1, what), dueOfSecond[what]);
        }
        DUE.is("of(0, 6)", room.of(0, 6), PermitRoom.NUMBER);
        DUE.is("of(0, -1)", room.of(0, -1), PermitRoom.NUMBER);
        DUE.is("of(2, 0)", room.of(2, 0), PermitRoom.NUMBER);
        DUE.is("of(-1, 0)", room.of(-1, 0), PermitRoom.NUMBER);
        room.turn(0, true);
        DUE.is("of: closed by hand", room.of(0, 4), 1);
        DUE.is("of: by hand is no lock", room.of(0, 5), 0);
        room.isolate(room.ask(0, 0, 1));
        room.isolate(room.ask(0, 0, 1));
        DUE.is("of: two locks", room.of(0, 5), 2);
    }

    private static void sources() {
        PermitRoom room = new PermitRoom();
        DUE.is("source: new", room.source(4, 2, true), 1);
        DUE.is("source: not new", room.source(4, 2, true), 0);
        DUE.is("source: another hazard", room.source(4, 1, true), 1);
        DUE.is("source: no more of one", room.source(4, 2, false), 1);
        DUE.is("source: still of the other", room.safe(4), 0);
        DUE.is("source: no more again", room.source(4, 2, false), 0);
        DUE.is("source: of none", room.source(4, 1, false), 1);
        DUE.is("source: safe again", room.safe(4), 1);
        DUE.is("source(-1)", room.source(-1, 0, true), PermitRoom.NUMBER);
        DUE.is("source(10)", room.source(10, 0, true), PermitRoom.NUMBER);
        DUE.is("source, hazard -1", room.source(0, -1, true), PermitRoom.NUMBER);
        DUE.is("source, hazard 3", room.source(0, 3, true), PermitRoom.NUMBER);
    }

    private static void turning() {
        PermitRoom room = new PermitRoom();
        room.pipe(0, 1, 0);
        room.pipe(0, 1, 2);
        DUE.is("turn: open is not new", room.turn(0, false), 0);
        DUE.is("turn: closed", room.turn(0, true), 1);
        DUE.is("turn: closed again", room.turn(0, true), 0);
        DUE.is("turn: open", room.turn(0, false), 1);
        DUE.is("turn: open now", room.of(0, 4), 0);
        DUE.is("turn: no fitting", room.turn(1, true), PermitRoom.NUMBER);
        DUE.is("turn: no pipe", room.turn(2, true), PermitRoom.NUMBER);
        DUE.is("turn: no pipe below", room.turn(-1, false), PermitRoom.NUMBER);
    }

    private static void lockedFittings() {
        PermitRoom room = new PermitRoom();
        room.pipe(0, 1, 0);
        room.isolate(room.ask(1, 0, 1));
        room.isolate(room.ask(1, 0, 1));
        DUE.is("turn: to open a locked one", room.turn(0, false), PermitRoom.LOCKED);
        DUE.is("turn: by hand too", room.turn(0, true), 1);
        DUE.is("back: the first lock", room.back(0), 0);
        DUE.is("turn: still locked", room.turn(0, false), PermitRoom.LOCKED);
        DUE.is("back: the last lock, by hand still", room.back(1), 0);
        DUE.is("turn: free", room.turn(0, false), 1);
        DUE.is("turn: open", room.of(0, 4), 0);
    }

    private static void safety() {
        PermitRoom room = new PermitRoom();
        room.pipe(0, 1, 0);
        room.pipe(1, 2, 1);
        room.pipe(2, 3, 2);
        room.source(0, 1, true);
        DUE.is("safe: a source itself", room.safe(0), 0);
        DUE.is("safe: far but open", room.safe(3), 0);
        DUE.is("safe: not joined", room.safe(4), 1);
        room.turn(1, true);
        DUE.is("safe: behind a blind", room.safe(3), 1);
        DUE.is("safe: ahead of it", room.safe(1), 0);
        room.pipe(0, 3, 0);
        DUE.is("safe: around it", room.safe(3), 0);
        room.turn(3, true);
        DUE.is("safe: around closed", room.safe(3), 1);
        room.source(3, 2, true);
        DUE.is("safe: a second source", room.safe(2), 0);
        DUE.is("safe: parted from both", room.safe(4), 1);
        DUE.is("safe(10)", room.safe(10), PermitRoom.NUMBER);
        DUE.is("safe(-1)", room.safe(-1), PermitRoom.NUMBER);
    }

    private static void doubledHazards() {
        PermitRoom room = new PermitRoom();
        room.pipe(0, 1, 0);
        room.pipe(1, 2, 0);
        room.pipe(0, 3, 1);
        room.source(0, 1, true);
        room.turn(0, true);
        Due.rule(room, "double gas");
        DUE.is("safe: another hazard is doubled", room.safe(1), 1);
        Due.rule(room, "double steam");
        DUE.is("safe: one valve isn't two barriers", room.safe(1), 0);
        DUE.is("safe: nor behind an open one", room.safe(2), 0);
        room.turn(1, true);
        DUE.is("safe: two valves are", room.safe(2), 1);
        room.turn(2, true);
        DUE.is("safe: a blind is", room.safe(3), 1);
        room.strike(1);
        DUE.is("safe: the rule is struck", room.safe(1), 1);
    }

    private static void fewestBarriers() {
        PermitRoom room = new PermitRoom();
        room.pipe(0, 1, 1);
        room.pipe(1, 2, 1);
        room.pipe(0, 3, 0);
        room.pipe(3, 4, 0);
        room.pipe(4, 2, 0);
        DUE.is("barriers: all open", room.barriers(0, 2), 0);
        for (int i = 0; i < 5; i++) {
            room.turn(i, true);
        }
        DUE.is("barriers: three valves", room.barriers(0, 2), 3);
        DUE.is("barriers: either way", room.barriers(2, 0), 3);
        DUE.is("barriers: a blind", room.barriers(0, 1), 2);
        DUE.is("barriers: one valve", room.barriers(0, 3), 1);
        room.turn(0, false);
        DUE.is("barriers: a blind and an open one", room.barriers(0, 2), 2);
        DUE.is("barriers: itself", room.barriers(9, 9), 0);
        DUE.is("barriers: no row", room.barriers(0, 9), PermitRoom.NONE);
        int[][] wrong = {{-1, 0}, {0, -1}, {10, 0}, {0, 10}, {10, 10}};
        for (int[] w : wrong) {
            DUE.is("barriers, wrong", room.barriers(w[0], w[1]), PermitRoom.NUMBER);
            DUE.is("apart, wrong", room.apart(w[0], w[1]), PermitRoom.NUMBER);
        }
        PermitRoom row = new PermitRoom();
        for (int i = 0; i < 9; i++) {
            row.pipe(i, i + 1, 1);
            row.turn(i, true);
        }
        DUE.is("barriers: the most", row.barriers(9, 0), 18);
        DUE.is("apart: the most", row.apart(9, 0), 9);
    }

    private static void pipesApart() {
        PermitRoom room = new PermitRoom();
        room.pipe(0, 1, 0);
        room.pipe(1, 2, 2);
        room.pipe(2, 3, 1);
        DUE.is("apart: itself", room.apart(5, 5), 0);
        DUE.is("apart: three", room.apart(0, 3), 3);
        DUE.is("apart: either way", room.apart(3, 1), 2);
        room.turn(0, true);
        DUE.is("apart: closed ones count alike", room.apart(0, 3), 3);
        room.pipe(0, 3, 0);
        DUE.is("apart: a nearer way", room.apart(0, 3), 1);
        DUE.is("apart: no row", room.apart(0, 9), PermitRoom.NONE);
    }

    private static void hoursGoBy() {
        PermitRoom room = new PermitRoom();
        DUE.is("go(0)", room.go(0), PermitRoom.NUMBER);
        DUE.is("go(49)", room.go(49), PermitRoom.NUMBER);
        DUE.is("go(-1)", room.go(-1), PermitRoom.NUMBER);
        DUE.is("go: a great number", room.go(Integer.MAX_VALUE), PermitRoom.NUMBER);
        DUE.is("go(1)", room.go(1), 1);
        for (int i = 1; i <= 6; i++) {
            DUE.is("go(48)", room.go(48), 1 + 48 * i);
        }
        DUE.is("go: above 300", room.go(12), PermitRoom.NUMBER);
        DUE.is("go: to 300", room.go(11), 300);
        DUE.is("go: no more", room.go(1), PermitRoom.NUMBER);
        DUE.is("go: now", room.many(0), 300);
    }
}
