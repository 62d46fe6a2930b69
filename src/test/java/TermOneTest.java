import java.io.IOException;

/** The document's opening words and term 1, the net: each sentence that names an edge has answers of its own. */
public final class TermOneTest {
    private static final Due DUE = new Due();

    public static void main(String[] args) throws IOException {
        theLastCall();
        places();
        mostPipes();
        unlikePlaces();
        fittings();
        knownFrom();
        openAtFirst();
        alwaysOpen();
        byHandOrLocks();
        barriersOfAFitting();
        hazards();
        sourceOfSome();
        barriersOfARow();
        partedByOne();
        partedByTwo();
        neverFromItself();
        safeFromAll();
        hours();
        hourOfDay();
        DUE.quotedFrom(args);
        DUE.end();
    }

    private static void theLastCall() {
        DUE.says("An object is used for at most 512 calls after it has been made");
        PermitRoom room = new PermitRoom();
        room.pipe(0, 1, 0);
        room.source(0, 0, true);
        for (int call = 3; call <= 510; call++) {
            room.turn(0, call % 2 == 0);
        }
        DUE.is("the 511th call, turn", room.turn(0, false), 1);
        DUE.is("the 512th call, safe", room.safe(1), 0);
    }

    private static void places() {
        DUE.says("PLACES 0 to 9.");
        PermitRoom room = new PermitRoom();
        DUE.is("safe(0)", room.safe(0), 1);
        DUE.is("safe(9)", room.safe(9), 1);
        DUE.is("safe(-1)", room.safe(-1), PermitRoom.NUMBER);
        DUE.is("safe(10)", room.safe(10), PermitRoom.NUMBER);
        DUE.is("pipe(9, 0)", room.pipe(9, 0, 0), 0);
    }

    private static void mostPipes() {
        DUE.says("PIPES are numbered from 0 as they come, 12 at most");
        PermitRoom room = new PermitRoom();
        for (int i = 0; i < 12; i++) {
            DUE.is("pipe " + i, room.pipe(0, 1, 0), i);
        }
        DUE.is("pipe: a 13th", room.pipe(0, 1, 0), PermitRoom.FULL);
        DUE.is("many(1)", room.many(1), 12);
        DUE.is("turn: the last one", room.turn(11, true), 1);
        DUE.is("turn: none behind it", room.turn(12, true), PermitRoom.NUMBER);
    }

    private static void unlikePlaces() {
        DUE.says("each between two unlike PLACES");
        PermitRoom room = new PermitRoom();
        for (int place = 0; place < 10; place++) {
            DUE.is("pipe: from " + place + " to itself", room.pipe(place, place, 2), PermitRoom.NUMBER);
        }
        DUE.is("pipe: alike but for one", room.pipe(8, 9, 2), 0);
        DUE.is("pipe: the same two again", room.pipe(9, 8, 2), 1);
    }

    private static void fittings() {
        DUE.says("with a FITTING: 0 a VALVE, 1 a BLIND, 2 none");
        PermitRoom room = new PermitRoom();
        DUE.is("pipe: fitting -1", room.pipe(0, 1, -1), PermitRoom.NUMBER);
        DUE.is("pipe: fitting 3", room.pipe(0, 1, 3), PermitRoom.NUMBER);
        for (int fitting = 0; fitting < 3; fitting++) {
            DUE.is("pipe: fitting " + fitting, room.pipe(0, 1, fitting), fitting);
            DUE.is("of: fitting " + fitting, room.of(fitting, 2), fitting);
        }
    }

    private static void knownFrom() {
        DUE.says("each is KNOWN from the HOUR on at which it was told");
        PermitRoom room = new PermitRoom();
        room.source(0, 0, true);
        int permit = Due.live(room, 1, 0, 0, 0);
        room.go(5);
        room.pipe(0, 1, 2);
        room.go(5);
        DUE.is("right: as known an hour ahead", room.right(permit, 7, 4), 1);
        DUE.is("right: as known in that hour", room.right(permit, 7, 5), 0);
        DUE.is("right: as known an hour later", room.right(permit, 7, 6), 0);
        DUE.is("right: then, as known later", room.right(permit, 4, 5), 0);
        DUE.is("of: known from", room.of(0, 3), 5);
    }

    private static void openAtFirst() {
        DUE.says("A FITTING is CLOSED or open (at first; 2 always open)");
        PermitRoom room = new PermitRoom();
        for (int fitting = 0; fitting < 3; fitting++) {
            room.pipe(0, 1, fitting);
            DUE.is("of: open at first, fitting " + fitting, room.of(fitting, 4), 0);
        }
        DUE.is("many: none is closed", room.many(5), 0);
    }

    private static void alwaysOpen() {
        DUE.says("2 always open");
        PermitRoom room = new PermitRoom();
        room.pipe(0, 1, 2);
        DUE.is("turn: no fitting", room.turn(0, true), PermitRoom.NUMBER);
        DUE.is("ask: no fitting", room.ask(0, 0, 1), PermitRoom.NUMBER);
        DUE.is("of: still open", room.of(0, 4), 0);
        DUE.is("barriers: none", room.barriers(0, 1), 0);
    }

    private static void byHandOrLocks() {
        DUE.says("by hand, or by LOCKS of PERMITS, or both");
        PermitRoom room = Due.roomOfValves(3);
        room.turn(0, true);
        room.isolate(room.ask(0, 0, 2));
        room.turn(2, true);
        room.isolate(room.ask(0, 0, 4));
        for (int i = 0; i < 3; i++) {
            DUE.is("of: closed, pipe " + i, room.of(i, 4), 1);
        }
        DUE.is("many: each counts once", room.many(5), 3);
        DUE.is("back: by a lock alone", room.back(0), 1);
        DUE.is("back: by both, by hand still", room.back(1), 0);
        DUE.is("of: by hand alone now", room.of(2, 4), 1);
        DUE.is("turn: not by hand any more", room.turn(2, false), 1);
        DUE.is("of: open", room.of(2, 4), 0);
    }

    private static void barriersOfAFitting() {
        DUE.says("a CLOSED VALVE is 1 BARRIER, a CLOSED BLIND 2");
        PermitRoom room = new PermitRoom();
        room.pipe(0, 1, 0);
        room.pipe(2, 3, 1);
        DUE.is("barriers: an open valve", room.barriers(0, 1), 0);
        DUE.is("barriers: an open blind", room.barriers(2, 3), 0);
        room.turn(0, true);
        room.turn(1, true);
        DUE.is("barriers: a closed valve", room.barriers(0, 1), 1);
        DUE.is("barriers: a closed blind", room.barriers(2, 3), 2);
    }

    private static void hazards() {
        DUE.says("HAZARDS are 0 gas, 1 steam, 2 power");
        String[] names = {"gas", "steam", "power"};
        for (int hazard = 0; hazard < 3; hazard++) {
            for (int doubled = 0; doubled < 3; doubled++) {
                PermitRoom room = Due.roomOfValves(1);
                room.turn(0, true);
                DUE.is("source", room.source(0, hazard, true), 1);
                Due.rule(room, "double " + names[doubled]);
                DUE.is("safe: " + names[doubled] + " is doubled", room.safe(1), hazard == doubled ? 0 : 1);
            }
        }
        PermitRoom room = new PermitRoom();
        DUE.is("source: hazard -1", room.source(0, -1, true), PermitRoom.NUMBER);
        DUE.is("source: hazard 3", room.source(0, 3, true), PermitRoom.NUMBER);
    }

    private static void sourceOfSome() {
        DUE.says("a PLACE may be a SOURCE of some");
        PermitRoom room = new PermitRoom();
        for (int hazard = 0; hazard < 3; hazard++) {
            DUE.is("source: one more", room.source(9, hazard, true), 1);
        }
        for (int hazard = 0; hazard < 3; hazard++) {
            DUE.is("safe: a source still", room.safe(9), 0);
            DUE.is("source: one fewer", room.source(9, hazard, false), 1);
        }
        DUE.is("safe: a source of none", room.safe(9), 1);
    }

    private static void barriersOfARow() {
        DUE.says("A row of PIPES from a PLACE to another one has as many BARRIERS as its FITTINGS have together.");
        PermitRoom room = new PermitRoom();
        room.pipe(0, 1, 0);
        room.pipe(1, 2, 1);
        room.pipe(2, 3, 2);
        room.pipe(3, 4, 0);
        for (int i = 0; i < 4; i++) {
            room.turn(i, true);
        }
        int[] due = {0, 1, 3, 3, 4};
        for (int place = 0; place < due.length; place++) {
            DUE.is("barriers(0, " + place + ")", room.barriers(0, place), due[place]);
        }
        DUE.is("barriers: to a place without pipes", room.barriers(0, 5), PermitRoom.NONE);
    }

    private static void partedByOne() {
        DUE.says("if each row of PIPES between them has 1 or more");
        PermitRoom room = new PermitRoom();
        room.source(0, 1, true);
        DUE.is("safe: no row at all", room.safe(1), 1);
        room.pipe(0, 1, 0);
        DUE.is("safe: 0 barriers", room.safe(1), 0);
        room.turn(0, true);
        DUE.is("safe: 1 barrier", room.safe(1), 1);
        room.pipe(0, 1, 0);
        DUE.is("safe: 1 and 0 barriers", room.safe(1), 0);
        room.turn(1, true);
        DUE.is("safe: 1 and 1 barrier", room.safe(1), 1);
        room.pipe(0, 2, 2);
        room.pipe(2, 1, 2);
        DUE.is("safe: a longer row with 0", room.safe(1), 0);
    }

    private static void partedByTwo() {
        DUE.says("(2 or more, where a RULE says double of it)");
        PermitRoom room = new PermitRoom();
        Due.rule(room, "double power");
        room.source(0, 2, true);
        room.pipe(0, 1, 0);
        room.pipe(1, 2, 0);
        room.pipe(0, 3, 1);
        DUE.is("safe: no row at all", room.safe(4), 1);
        DUE.is("safe: 0 barriers", room.safe(2), 0);
        room.turn(0, true);
        DUE.is("safe: 1 barrier", room.safe(2), 0);
        room.turn(1, true);
        DUE.is("safe: 2 barriers, two valves", room.safe(2), 1);
        DUE.is("safe: 1 of the two", room.safe(1), 0);
        room.turn(2, true);
        DUE.is("safe: 2 barriers, one blind", room.safe(3), 1);
        room.pipe(3, 1, 0);
        DUE.is("safe: 1 barrier around the blind", room.safe(3), 0);
        room.turn(3, true);
        DUE.is("safe: 2 barriers around the blind", room.safe(3), 1);
    }

    private static void neverFromItself() {
        DUE.says("never from itself");
        for (int hazard = 0; hazard < 3; hazard++) {
            PermitRoom room = Due.roomOfValves(1);
            room.turn(0, true);
            room.source(1, hazard, true);
            DUE.is("safe: itself", room.safe(1), 0);
            DUE.is("leastSet: itself", room.leastSet(1), PermitRoom.NONE);
            DUE.is("safe: another", room.safe(0), 1);
        }
    }

    private static void safeFromAll() {
        DUE.says("It is SAFE, if it is PARTED from all SOURCES for all HAZARDS that these are.");
        PermitRoom room = Due.roomOfValves(2);
        DUE.is("safe: no sources", room.safe(1), 1);
        room.source(0, 0, true);
        room.source(0, 1, true);
        room.turn(0, true);
        DUE.is("safe: two hazards of one source", room.safe(1), 1);
        Due.rule(room, "double steam");
        DUE.is("safe: one of the two is doubled", room.safe(1), 0);
        room.source(0, 1, false);
        DUE.is("safe: only the other one is left", room.safe(1), 1);
        room.source(2, 0, true);
        DUE.is("safe: a second source", room.safe(1), 0);
        room.turn(1, true);
        DUE.is("safe: both are parted", room.safe(1), 1);
    }

    private static void hours() {
        DUE.says("NOW is an HOUR, 0 to 300 (0 at first)");
        PermitRoom room = new PermitRoom();
        DUE.is("many: now at first", room.many(0), 0);
        Due.goTo(room, 299);
        DUE.is("go: above 300", room.go(2), PermitRoom.NUMBER);
        DUE.is("many: still 299", room.many(0), 299);
        DUE.is("go: 300", room.go(1), 300);
        DUE.is("go: above 300 by one", room.go(1), PermitRoom.NUMBER);
        DUE.is("many: still 300", room.many(0), 300);
    }

    private static void hourOfDay() {
        DUE.says("the hour of day is NOW modulo 24");
        int[] hours = {0, 1, 23, 24, 25, 47, 48, 287, 288, 289, 300};
        for (int hour : hours) {
            PermitRoom room = new PermitRoom();
            Due.rule(room, "hours cold 0 to 0");
            Due.ready(room, 0, 0, 0, 0);
            Due.goTo(room, hour);
            DUE.is("may: start at hour " + hour, room.may(0, 2), hour % 24 == 0 ? 0 : 5);
        }
    }
}
