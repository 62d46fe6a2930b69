/** Promises 32 to 38: the order, its proof, the reader, and how many there are. */
public final class OrderTest {
    private static final Due DUE = new Due();

    public static void main(String[] args) {
        emptyOrder();
        fewestMoves();
        lesserPermitFirst();
        onlyThoseThatAreAsked();
        rows();
        altering();
        dropping();
        proofAsItWasTold();
        sevenPermits();
        howMany();
        DUE.end();
    }

    private static void orderIs(PermitRoom room, int moves, int... permits) {
        DUE.is("order()", room.order(), moves);
        for (int i = 0; i < permits.length; i++) {
            DUE.is("ordered(" + i + ")", room.ordered(i), permits[i]);
        }
        DUE.is("ordered: behind the last", room.ordered(permits.length), PermitRoom.NONE);
        DUE.is("ordered: below", room.ordered(-1), PermitRoom.NONE);
        DUE.is("order: as many rows", room.many(9), permits.length * (permits.length + 1) / 2);
        DUE.is("order: its proof is right", room.check(), -1);
    }

    private static void emptyOrder() {
        PermitRoom room = new PermitRoom();
        DUE.is("check: no order", room.check(), PermitRoom.NONE);
        orderIs(room, 0);
        DUE.is("row: none", room.row(0, 0), PermitRoom.NONE);
    }

    private static void fewestMoves() {
        PermitRoom room = Due.roomOfValves(6);
        room.ask(0, 0, 0b000011);
        room.ask(0, 0, 0b110000);
        room.ask(0, 0, 0b000110);
        room.ask(0, 0, 0b011000);
        orderIs(room, 12, 0, 2, 1, 3);
        room.turn(4, true);
        orderIs(room, 10, 0, 2, 1, 3);
        DUE.is("turn: back open", room.turn(4, false), 1);
        room.ask(0, 0, 0b001100);
        orderIs(room, 12, 0, 2, 4, 3, 1);
    }

    private static void lesserPermitFirst() {
        PermitRoom room = Due.roomOfValves(3);
        room.ask(0, 0, 1);
        room.ask(0, 0, 2);
        room.ask(0, 0, 4);
        orderIs(room, 6, 0, 1, 2);
        PermitRoom other = Due.roomOfValves(3);
        other.ask(0, 0, 3);
        other.ask(0, 0, 5);
        other.ask(0, 0, 1);
        orderIs(other, 6, 0, 1, 2);
    }

    private static void onlyThoseThatAreAsked() {
        PermitRoom room = Due.roomOfValves(4);
        room.ask(0, 0, 3);
        room.ask(0, 0, 6);
        room.ask(0, 0, 12);
        room.isolate(1);
        orderIs(room, 4, 0, 2);
        room.isolate(0);
        orderIs(room, 2, 2);
        DUE.is("row: of the last one", room.row(0, 1), 2);
        room.isolate(2);
        orderIs(room, 0);
    }

    private static void rows() {
        PermitRoom room = Due.roomOfValves(3);
        room.ask(0, 0, 1);
        room.ask(0, 0, 6);
        room.ask(0, 0, 3);
        orderIs(room, 6, 0, 2, 1);
        int[][] due = {{0, 0, 6}, {0, 1, 6}, {0, 2, 8}, {1, 1, 8}, {1, 2, 6}, {2, 1, 6}};
        for (int i = 0; i < due.length; i++) {
            for (int what = 0; what < 3; what++) {
                DUE.is("row(" + i + ", " + what + ")", room.row(i, what), due[i][what]);
            }
        }
        DUE.is("row: another what", room.row(0, 3), PermitRoom.NUMBER);
        DUE.is("row: what below", room.row(0, -1), PermitRoom.NUMBER);
        DUE.is("row: behind the last", room.row(6, 0), PermitRoom.NONE);
        DUE.is("row: below", room.row(-1, 0), PermitRoom.NONE);
        DUE.is("row: what is named ahead of none", room.row(6, 3), PermitRoom.NUMBER);
    }

    private static void altering() {
        PermitRoom room = Due.roomOfValves(2);
        room.ask(0, 0, 1);
        room.ask(0, 0, 2);
        room.order();
        for (int what = 0; what < 3; what++) {
            int was = room.row(1, what);
            DUE.is("alter: what it was", room.alter(1, what, -7), was);
            DUE.is("alter: as it is", room.row(1, what), -7);
            DUE.is("check: the first wrong one", room.check(), 1);
            DUE.is("alter: to what it was", room.alter(1, what, was), -7);
            DUE.is("check: right again", room.check(), -1);
        }
        room.alter(2, 0, 9);
        room.alter(0, 2, 9);
        DUE.is("check: the first of two", room.check(), 0);
        DUE.is("alter: another what", room.alter(0, 3, 0), PermitRoom.NUMBER);
        DUE.is("alter: what below", room.alter(0, -1, 0), PermitRoom.NUMBER);
        DUE.is("alter: behind the last", room.alter(3, 0, 0), PermitRoom.NONE);
        DUE.is("alter: below", room.alter(-1, 0, 0), PermitRoom.NONE);
        DUE.is("alter: what is named ahead of none", room.alter(3, 3, 0), PermitRoom.NUMBER);
        DUE.is("order: tells them anew", room.order(), 4);
        DUE.is("check: all are right", room.check(), -1);
    }

    private static void dropping() {
        PermitRoom room = Due.roomOfValves(2);
        room.ask(0, 0, 1);
        room.ask(0, 0, 2);
        room.order();
        room.alter(2, 1, 5);
        DUE.is("drop: the wrong one", room.drop(), 2);
        DUE.is("check: one is missing", room.check(), 2);
        DUE.is("row: it is gone", room.row(2, 0), PermitRoom.NONE);
        room.alter(1, 1, 5);
        DUE.is("check: a wrong one ahead", room.check(), 1);
        DUE.is("drop", room.drop(), 1);
        DUE.is("drop: the last", room.drop(), 0);
        DUE.is("drop: none", room.drop(), PermitRoom.NONE);
        DUE.is("check: all are missing", room.check(), 0);
        DUE.is("ordered: told still", room.ordered(1), 1);
    }

    private static void proofAsItWasTold() {
        PermitRoom room = Due.roomOfValves(3);
        room.ask(0, 0, 1);
        room.ask(0, 0, 2);
        room.order();
        room.turn(0, true);
        room.isolate(1);
        room.ask(0, 0, 4);
        DUE.is("check: as it was told", room.check(), -1);
        DUE.is("row: as it was told", room.row(0, 2), 4);
        DUE.is("ordered: as it was told", room.ordered(1), 1);
    }

    private static void sevenPermits() {
        PermitRoom room = Due.roomOfValves(12);
        int[] sets = {0x041, 0xFC0, 0x003, 0x800, 0x00C, 0xC00, 0x030};
        for (int set : sets) {
            room.ask(0, 0, set);
        }
        DUE.is("order: seven", room.order(), 24);
        DUE.is("order: rows", room.many(9), 28);
        DUE.is("order: the last row's place", room.row(27, 0), 6);
        DUE.is("order: the last row's moves", room.row(27, 2), 24);
        DUE.is("order: no row behind", room.row(28, 0), PermitRoom.NONE);
    }

    private static void howMany() {
        PermitRoom room = Due.roomOfValves(3);
        Due.rule(room, "men hot 8");
        Due.rule(room, "double gas");
        Due.feed(room, "bar");
        room.go(4);
        Due.live(room, 0, 0, 3, 0);
        Due.live(room, 0, 0, 2, 0);
        Due.ready(room, 0, 0, 2, 0);
        room.ask(0, 0, 4);
        room.ask(0, 0, 4);
        room.enter(1, 0);
        room.enter(2, 1);
        room.enter(3, 1);
        room.shift(4, false);
        room.order();
        int[] due = {4, 3, 2, 5, 2, 2, 3, 7, 3, 3, 4};
        for (int what = 0; what < due.length; what++) {
            DUE.is("many(" + what + ")", room.many(what), due[what]);
        }
        DUE.is("many(11)", room.many(11), PermitRoom.NUMBER);
        DUE.is("many(-1)", room.many(-1), PermitRoom.NUMBER);
    }
}
