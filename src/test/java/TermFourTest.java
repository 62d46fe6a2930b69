import java.io.IOException;

/** Term 4, sets, leaks, what was right and the order, and the words below the terms. */
public final class TermFourTest {
    private static final Due DUE = new Due();

    public static void main(String[] args) throws IOException {
        leastSets();
        leaks();
        right();
        order();
        proof();
        reader();
        wordsBelow();
        DUE.quotedFrom(args);
        DUE.end();
    }

    private static void leastIs(PermitRoom room, int place, int hours, int set) {
        DUE.is("least(" + place + ")", room.least(place), hours);
        DUE.is("leastSet(" + place + ")", room.leastSet(place), set);
    }

    private static void leastSets() {
        noOthersClosed();
        fewestHours();
        fewerFittings();
        lesserFitting();
        noneIfNotEnough();
    }

    private static void noOthersClosed() {
        DUE.says("of all sets of FITTINGS with which, and no others CLOSED, it is SAFE");
        PermitRoom room = Due.roomOfValves(2);
        leastIs(room, 2, 0, 0);
        room.source(0, 0, true);
        leastIs(room, 2, 1, 1);
        room.turn(0, true);
        leastIs(room, 2, 1, 1);
        room.isolate(room.ask(0, 0, 2));
        leastIs(room, 2, 1, 1);
        Due.rule(room, "double gas");
        leastIs(room, 2, 2, 3);
        room.source(0, 0, false);
        leastIs(room, 2, 0, 0);
    }

    private static void fewestHours() {
        DUE.says("the one of the fewest HOURS (a VALVE 1, a BLIND 3)");
        PermitRoom room = new PermitRoom();
        room.source(0, 0, true);
        room.pipe(0, 1, 1);
        leastIs(room, 2, 0, 0);
        leastIs(room, 1, 3, 1);
        room.pipe(1, 2, 0);
        leastIs(room, 2, 1, 2);
        room.pipe(1, 2, 0);
        leastIs(room, 2, 2, 6);
        room.pipe(1, 2, 0);
        room.pipe(1, 2, 0);
        leastIs(room, 2, 3, 1);
        PermitRoom other = new PermitRoom();
        other.source(0, 0, true);
        other.pipe(0, 2, 0);
        other.pipe(0, 1, 1);
        other.pipe(1, 2, 0);
        leastIs(other, 2, 2, 0b101);
    }

    private static void fewerFittings() {
        DUE.says("of several the one with fewer FITTINGS");
        PermitRoom room = new PermitRoom();
        room.source(0, 0, true);
        room.pipe(0, 1, 0);
        room.pipe(0, 1, 0);
        room.pipe(0, 1, 0);
        leastIs(room, 2, 0, 0);
        room.pipe(1, 2, 1);
        leastIs(room, 2, 3, 8);
        leastIs(room, 1, 3, 7);
    }

    private static void lesserFitting() {
        DUE.says("of several the one that has the lesser FITTING first at which they are unlike");
        PermitRoom room = new PermitRoom();
        room.source(0, 0, true);
        room.pipe(3, 4, 0);
        room.pipe(2, 3, 0);
        room.pipe(1, 2, 0);
        room.pipe(0, 1, 0);
        leastIs(room, 4, 1, 1);
        room.pipe(4, 1, 0);
        leastIs(room, 4, 1, 8);
        room.pipe(0, 1, 0);
        leastIs(room, 4, 2, 0b010001);
        leastIs(room, 2, 2, 0b000101);
        leastIs(room, 3, 2, 0b000011);
    }

    private static void noneIfNotEnough() {
        DUE.says("There is none if all CLOSED aren't enough.");
        PermitRoom room = new PermitRoom();
        room.source(0, 0, true);
        room.pipe(0, 1, 0);
        leastIs(room, 0, PermitRoom.NONE, PermitRoom.NONE);
        leastIs(room, 1, 1, 1);
        Due.rule(room, "double gas");
        leastIs(room, 1, PermitRoom.NONE, PermitRoom.NONE);
        room.pipe(1, 2, 0);
        leastIs(room, 2, 2, 3);
        room.pipe(0, 2, 2);
        leastIs(room, 2, PermitRoom.NONE, PermitRoom.NONE);
    }

    private static void leaks() {
        DUE.says("A LEAK of a FITTING: it counts no BARRIERS.");
        PermitRoom room = new PermitRoom();
        room.source(0, 0, true);
        room.pipe(0, 1, 1);
        room.pipe(1, 2, 0);
        Due.live(room, 1, 0, 1, 0);
        Due.live(room, 2, 0, 2, 0);
        DUE.is("risk: of the blind", room.risk(0), 1);
        DUE.is("risk: of the valve", room.risk(1), 0);
        Due.rule(room, "double gas");
        DUE.is("risk: of the blind, doubled", room.risk(0), 3);
        DUE.is("risk: of the valve, doubled", room.risk(1), 0);
        DUE.is("risk: nothing was turned", room.many(5), 2);
        DUE.says("AT RISK are PERMITS that are LIVE whose PLACE wouldn't be SAFE then.");
        room.hang(0);
        DUE.is("risk: the first isn't live", room.risk(0), 2);
        room.hang(1);
        DUE.is("risk: none is live", room.risk(0), 0);
        room.start(0);
        room.turn(0, true);
        room.source(1, 1, true);
        DUE.is("risk: it isn't safe anyway", room.risk(1), 1);
        allAtRisk();
    }

    private static void allAtRisk() {
        PermitRoom room = Due.roomOfValves(1);
        room.source(0, 2, true);
        for (int w = 0; w < 7; w++) {
            Due.live(room, 1, 0, 1, 0);
        }
        DUE.is("risk: all seven", room.risk(0), 127);
        PermitRoom far = Due.roomOfValves(12);
        far.source(2, 2, true);
        Due.live(far, 3, 0, 0b100000001100, 0);
        for (int pipe = 0; pipe < 12; pipe++) {
            DUE.is("risk: of valve " + pipe, far.risk(pipe), pipe == 2 || pipe == 11 ? 1 : 0);
        }
    }

    private static void right() {
        DUE.says("if it was LIVE by HISTORY and its PLACE SAFE by what was CLOSED then");
        PermitRoom room = Due.roomOfValves(1);
        room.source(0, 0, true);
        int permit = Due.ready(room, 1, 0, 1, 0);
        room.go(1);
        room.start(permit);
        room.go(1);
        room.hang(permit);
        room.back(permit);
        room.go(1);
        int[] due = {2, 1, 2, 2};
        for (int hour = 0; hour < due.length; hour++) {
            DUE.is("right: at hour " + hour, room.right(permit, hour, 3), due[hour]);
        }
        for (int w = 1; w < 7; w++) {
            Due.live(room, 1, 0, 1, 0);
            DUE.is("right: permit " + w, room.right(w, 3, 3), 1);
        }
        DUE.says("by RULES in force at h");
        Due.rule(room, "double gas");
        DUE.is("right: a rule of now isn't one of then", room.right(permit, 1, 3), 1);
        DUE.says("with PIPES KNOWN at k");
        room.pipe(0, 1, 2);
        for (int known = 0; known < 4; known++) {
            DUE.is("right: as known at hour " + known, room.right(permit, 1, known), known < 3 ? 1 : 0);
        }
        DUE.says("(SOURCES as they are NOW)");
        room.source(0, 0, false);
        DUE.is("right: no source now", room.right(permit, 1, 3), 1);
        room.source(1, 1, true);
        DUE.is("right: a source now", room.right(permit, 1, 0), 0);
    }

    private static void orderIs(PermitRoom room, int moves, int... permits) {
        DUE.is("order()", room.order(), moves);
        for (int i = 0; i < permits.length; i++) {
            DUE.is("ordered(" + i + ")", room.ordered(i), permits[i]);
        }
        DUE.is("ordered: behind the last", room.ordered(permits.length), PermitRoom.NONE);
    }

    private static void order() {
        DUE.says("AN ORDER of all PERMITS that are ASKED");
        PermitRoom room = Due.roomOfValves(4);
        orderIs(room, 0);
        room.ask(0, 0, 1);
        orderIs(room, 2, 0);
        for (int state = 1; state < 6; state++) {
            PermitRoom other = Due.inState(state);
            other.ask(0, 0, 0);
            orderIs(other, 0, 1);
        }
        DUE.says("what both need stays CLOSED");
        room.ask(0, 0, 3);
        room.ask(0, 0, 2);
        orderIs(room, 4, 0, 1, 2);
        DUE.says("from those that are CLOSED NOW (which stay so throughout) to these alone again");
        room.turn(0, true);
        orderIs(room, 2, 0, 1, 2);
        room.turn(1, true);
        orderIs(room, 0, 0, 1, 2);
        room.turn(0, false);
        room.turn(1, false);
        room.isolate(1);
        orderIs(room, 0, 0, 2);
        DUE.says("THE ORDER has the fewest");
        PermitRoom mixed = Due.roomOfValves(4);
        mixed.ask(0, 0, 0b0011);
        mixed.ask(0, 0, 0b1100);
        mixed.ask(0, 0, 0b0110);
        orderIs(mixed, 8, 0, 2, 1);
        DUE.says("it is the one with the lesser PERMIT at the first place where they are unlike");
        PermitRoom alike = new PermitRoom();
        for (int w = 0; w < 7; w++) {
            alike.ask(0, 0, 0);
        }
        orderIs(alike, 0, 0, 1, 2, 3, 4, 5, 6);
    }

    private static void rowIs(PermitRoom room, int i, int place, int permit, int moves) {
        DUE.is("row(" + i + ", 0)", room.row(i, 0), place);
        DUE.is("row(" + i + ", 1)", room.row(i, 1), permit);
        DUE.is("row(" + i + ", 2)", room.row(i, 2), moves);
    }

    /** Of the works 0, 2, 3 the order is 0, 3, 2; permit 1 isn't asked any more. */
    private static PermitRoom threeWorks() {
        PermitRoom room = Due.roomOfValves(4);
        room.ask(0, 0, 0b0011);
        room.ask(0, 0, 0b0000);
        room.ask(0, 0, 0b1100);
        room.ask(0, 0, 0b0110);
        room.isolate(1);
        room.order();
        return room;
    }

    private static void proof() {
        DUE.says("for each place of it, for each PERMIT that isn't ahead of that in THE ORDER, by numbers");
        PermitRoom room = threeWorks();
        int[][] due = {{0, 0}, {0, 2}, {0, 3}, {1, 2}, {1, 3}, {2, 2}};
        DUE.is("many: rows", room.many(9), due.length);
        for (int i = 0; i < due.length; i++) {
            DUE.is("row: its place", room.row(i, 0), due[i][0]);
            DUE.is("row: its permit", room.row(i, 1), due[i][1]);
        }
        DUE.says("the fewest MOVES of an ORDER that goes as THE ORDER ahead of that place and has that PERMIT there");
        int[] moves = {8, 8, 10, 10, 8, 8};
        for (int i = 0; i < moves.length; i++) {
            rowIs(room, i, due[i][0], due[i][1], moves[i]);
        }
    }

    private static void reader() {
        DUE.says("THE ROWS are those that were told last; they may be altered");
        PermitRoom room = threeWorks();
        DUE.is("alter", room.alter(5, 2, Integer.MIN_VALUE), 8);
        rowIs(room, 5, 2, 2, Integer.MIN_VALUE);
        room.isolate(0);
        room.isolate(2);
        room.order();
        DUE.is("many: of the last one", room.many(9), 1);
        rowIs(room, 0, 0, 3, 0);
        DUE.is("row: those told ahead are gone", room.row(1, 0), PermitRoom.NONE);
        DUE.says("the first one that isn't as THE PROOF has it, as it was told");
        for (int i = 0; i < 6; i++) {
            for (int what = 0; what < 3; what++) {
                PermitRoom other = threeWorks();
                other.alter(i, what, other.row(i, what) + 1);
                DUE.is("check: row " + i + ", " + what, other.check(), i);
                other.alter(5, 2, 99);
                DUE.is("check: the first of two", other.check(), i);
            }
        }
        PermitRoom later = threeWorks();
        later.turn(0, true);
        later.isolate(0);
        later.ask(0, 0, 15);
        DUE.is("check: as it was told", later.check(), -1);
    }

    private static void wordsBelow() {
        DUE.says("BAR: -10 less the number of the BAR.");
        DUE.is("start: 1", Due.inState(0).start(0), -11);
        PermitRoom unsafe = Due.inState(1);
        unsafe.source(0, 0, true);
        DUE.is("start: 2", unsafe.start(0), -12);
        PermitRoom untested = Due.inState(1);
        Due.rule(untested, "need cold test 1");
        DUE.is("start: 3", untested.start(0), -13);
        PermitRoom quarrel = Due.inState(3);
        Due.rule(quarrel, "bar cold cold within 0");
        DUE.is("start: 4", quarrel.start(Due.ready(quarrel, 0, 0, 0, 0)), -14);
        PermitRoom late = Due.inState(1);
        Due.rule(late, "hours cold 1 to 1");
        DUE.is("start: 5", late.start(0), -15);
        PermitRoom unheld = Due.inState(1);
        unheld.hold(0, -1);
        DUE.is("start: 6", unheld.start(0), -16);
        PermitRoom inside = Due.inState(3);
        inside.enter(0, 0);
        DUE.is("hang: 7", inside.hang(0), -17);
        PermitRoom watched = Due.inState(4);
        Due.rule(watched, "watch cold 1");
        DUE.is("back: 8", watched.back(0), -18);
    }
}
