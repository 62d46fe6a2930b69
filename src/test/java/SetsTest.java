/** Promises 28 to 31: least sets, leaks, and what was right. */
public final class SetsTest {
    private static final Due DUE = new Due();

    public static void main(String[] args) {
        fewestHours();
        fewerFittings();
        lesserFittingFirst();
        doubledSets();
        noSet();
        leaks();
        rightAsKnown();
        rightBeforeAnyPipe();
        rightByRules();
        rightByHistory();
        DUE.end();
    }

    private static void leastIs(PermitRoom room, int place, int hours, int set) {
        DUE.is("least(" + place + ")", room.least(place), hours);
        DUE.is("leastSet(" + place + ")", room.leastSet(place), set);
    }

    private static void fewestHours() {
        PermitRoom room = new PermitRoom();
        room.source(0, 0, true);
        room.pipe(0, 1, 1);
        room.pipe(1, 2, 0);
        room.pipe(1, 2, 0);
        leastIs(room, 2, 2, 6);
        leastIs(room, 1, 3, 1);
        room.turn(0, true);
        leastIs(room, 2, 2, 6);
        room.pipe(1, 2, 0);
        room.pipe(1, 2, 0);
        leastIs(room, 2, 3, 1);
        leastIs(room, 9, 0, 0);
        room.source(2, 1, true);
        leastIs(room, 1, 7, 31);
        leastIs(room, 2, PermitRoom.NONE, PermitRoom.NONE);
    }

    private static void fewerFittings() {
        PermitRoom room = new PermitRoom();
        room.source(0, 2, true);
        room.pipe(0, 1, 0);
        room.pipe(0, 1, 0);
        room.pipe(0, 1, 0);
        room.pipe(1, 2, 1);
        leastIs(room, 2, 3, 8);
    }

    private static void lesserFittingFirst() {
        PermitRoom room = new PermitRoom();
        room.source(0, 0, true);
        room.pipe(3, 4, 0);
        room.pipe(0, 1, 0);
        room.pipe(0, 2, 0);
        room.pipe(2, 3, 0);
        room.pipe(1, 3, 0);
        leastIs(room, 4, 1, 1);
        leastIs(room, 3, 2, 6);
        PermitRoom row = new PermitRoom();
        row.source(0, 0, true);
        row.pipe(1, 2, 0);
        row.pipe(0, 1, 0);
        leastIs(row, 2, 1, 1);
    }

    private static void doubledSets() {
        PermitRoom room = new PermitRoom();
        room.source(0, 0, true);
        room.pipe(0, 1, 0);
        room.pipe(1, 2, 0);
        room.pipe(0, 3, 1);
        Due.rule(room, "double gas");
        leastIs(room, 2, 2, 3);
        leastIs(room, 3, 3, 4);
        leastIs(room, 1, PermitRoom.NONE, PermitRoom.NONE);
        room.strike(0);
        leastIs(room, 2, 1, 1);
    }

    private static void noSet() {
        PermitRoom room = new PermitRoom();
        room.source(0, 0, true);
        room.pipe(0, 1, 2);
        room.pipe(1, 2, 0);
        leastIs(room, 1, PermitRoom.NONE, PermitRoom.NONE);
        leastIs(room, 2, 1, 2);
        leastIs(room, -1, PermitRoom.NUMBER, PermitRoom.NUMBER);
        leastIs(room, 10, PermitRoom.NUMBER, PermitRoom.NUMBER);
    }

    private static void leaks() {
        PermitRoom room = new PermitRoom();
        room.source(0, 0, true);
        room.pipe(0, 1, 0);
        room.pipe(1, 2, 0);
        room.pipe(1, 3, 1);
        room.pipe(4, 5, 2);
        Due.live(room, 1, 0, 1, 0);
        Due.live(room, 2, 0, 3, 0);
        Due.ready(room, 1, 0, 1, 0);
        DUE.is("risk: one of two valves", room.risk(0), 1);
        DUE.is("risk: the other", room.risk(1), 0);
        DUE.is("risk: an open one", room.risk(2), 0);
        DUE.is("risk: no fitting", room.risk(3), PermitRoom.NUMBER);
        DUE.is("risk: no pipe", room.risk(4), PermitRoom.NUMBER);
        DUE.is("risk: no pipe below", room.risk(-1), PermitRoom.NUMBER);
        Due.rule(room, "double gas");
        DUE.is("risk: doubled", room.risk(1), 3);
        DUE.is("risk: one isn't safe already", room.risk(2), 1);
        DUE.is("risk: closed still", room.of(1, 4), 1);
        room.siren();
        DUE.is("risk: none is live", room.risk(0), 0);
    }

    private static void rightAsKnown() {
        PermitRoom room = new PermitRoom();
        room.source(0, 0, true);
        room.pipe(0, 1, 0);
        int permit = Due.live(room, 1, 0, 1, 0);
        room.go(3);
        room.pipe(0, 1, 2);
        DUE.is("right: then, as known then", room.right(permit, 0, 0), 1);
        DUE.is("right: now, as known then", room.right(permit, 3, 2), 1);
        DUE.is("right: then, as known now", room.right(permit, 0, 3), 0);
        DUE.is("right: now, as known now", room.right(permit, 3, 3), 0);
        room.source(0, 0, false);
        DUE.is("right: sources as they are now", room.right(permit, 0, 3), 1);
        room.source(1, 2, true);
        DUE.is("right: a source now", room.right(permit, 0, 0), 0);
        DUE.is("right: no permit", room.right(1, 0, 0), PermitRoom.NUMBER);
        DUE.is("right: no permit below", room.right(-1, 0, 0), PermitRoom.NUMBER);
        DUE.is("right: hour above", room.right(permit, 4, 0), PermitRoom.NUMBER);
        DUE.is("right: hour below", room.right(permit, -1, 0), PermitRoom.NUMBER);
        DUE.is("right: known above", room.right(permit, 0, 4), PermitRoom.NUMBER);
        DUE.is("right: known below", room.right(permit, 0, -1), PermitRoom.NUMBER);
    }

    private static void rightBeforeAnyPipe() {
        PermitRoom room = new PermitRoom();
        room.source(0, 0, true);
        int permit = Due.live(room, 1, 0, 0, 0);
        room.go(1);
        room.pipe(0, 1, 0);
        room.go(1);
        room.pipe(0, 1, 0);
        int[] due = {1, 0, 0};
        for (int known = 0; known < due.length; known++) {
            DUE.is("right: as known at hour " + known, room.right(permit, 0, known), due[known]);
        }
    }

    private static void rightByRules() {
        PermitRoom room = new PermitRoom();
        room.source(0, 0, true);
        room.pipe(0, 1, 0);
        int permit = Due.live(room, 1, 0, 1, 0);
        room.go(2);
        Due.rule(room, "double gas");
        room.go(2);
        room.strike(0);
        room.go(1);
        int[] due = {1, 1, 0, 0, 1, 1};
        for (int hour = 0; hour < due.length; hour++) {
            DUE.is("right: by rules of hour " + hour, room.right(permit, hour, 5), due[hour]);
        }
    }

    private static void rightByHistory() {
        PermitRoom room = new PermitRoom();
        room.source(0, 0, true);
        room.pipe(0, 1, 0);
        room.turn(0, true);
        int permit = Due.ready(room, 1, 0, 0, 0);
        DUE.is("right: not live yet", room.right(permit, 0, 0), 2);
        room.start(permit);
        DUE.is("right: live now", room.right(permit, 0, 0), 1);
        room.go(2);
        room.turn(0, false);
        DUE.is("right: open now", room.right(permit, 2, 2), 0);
        DUE.is("right: closed then", room.right(permit, 1, 2), 1);
        room.go(1);
        room.turn(0, true);
        room.hang(permit);
        room.go(1);
        int[] due = {1, 1, 0, 2, 2};
        for (int hour = 0; hour < due.length; hour++) {
            DUE.is("right: as hour " + hour + " ended", room.right(permit, hour, 4), due[hour]);
        }
    }
}
