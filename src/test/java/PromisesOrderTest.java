import java.io.IOException;

/** Promises 28 to 38, sets, the order and how many: each sentence that names an edge has answers of its own. */
public final class PromisesOrderTest {
    private static final Due DUE = new Due();
    private static final int[] NO_PLACES = {-1, 10, 31, 32, Integer.MIN_VALUE, Integer.MAX_VALUE};
    private static final int[] NO_WHATS = {-1, 3, Integer.MIN_VALUE, Integer.MAX_VALUE};

    public static void main(String[] args) throws IOException {
        least();
        leastSet();
        risk();
        right();
        order();
        ordered();
        row();
        alter();
        drop();
        check();
        many();
        DUE.quotedFrom(args);
        DUE.end();
    }

    /** Twelve fittings of that sort side by side from the source, 0, to place 1, and none of place 2. */
    private static PermitRoom twelve(int fitting) {
        PermitRoom room = new PermitRoom();
        room.source(0, 0, true);
        for (int i = 0; i < 12; i++) {
            room.pipe(0, 1, fitting);
        }
        return room;
    }

    private static void least() {
        DUE.says("HOURS of the LEAST SET of a PLACE. NUMBER: there is none such; NONE.");
        DUE.is("least: twelve valves", twelve(0).least(1), 12);
        DUE.is("least: twelve blinds", twelve(1).least(1), 36);
        DUE.is("least: an empty set", twelve(0).least(2), 0);
        DUE.is("least: no set", twelve(2).least(1), PermitRoom.NONE);
        DUE.is("least: a source", twelve(0).least(0), PermitRoom.NONE);
        for (int wrong : NO_PLACES) {
            DUE.is("least(" + wrong + ")", twelve(0).least(wrong), PermitRoom.NUMBER);
        }
    }

    private static void leastSet() {
        DUE.says("The LEAST SET itself, as bits. NUMBER, NONE likewise.");
        DUE.is("leastSet: twelve valves", twelve(0).leastSet(1), 4095);
        DUE.is("leastSet: twelve blinds", twelve(1).leastSet(1), 4095);
        DUE.is("leastSet: an empty set", twelve(0).leastSet(2), 0);
        DUE.is("leastSet: no set", twelve(2).leastSet(1), PermitRoom.NONE);
        DUE.is("leastSet: a source", twelve(0).leastSet(0), PermitRoom.NONE);
        for (int wrong : NO_PLACES) {
            DUE.is("leastSet(" + wrong + ")", twelve(0).leastSet(wrong), PermitRoom.NUMBER);
        }
    }

    private static void risk() {
        DUE.says("AT RISK (bits) by a LEAK of a FITTING. NUMBER: there is no such PIPE, or its FITTING is 2.");
        PermitRoom room = new PermitRoom();
        room.source(0, 0, true);
        room.pipe(0, 1, 0);
        room.pipe(2, 3, 2);
        DUE.is("risk: no permits", room.risk(0), 0);
        for (int w = 0; w < 7; w++) {
            Due.live(room, w == 6 ? 1 : 2, 0, 1, 0);
        }
        DUE.is("risk: the last permit alone", room.risk(0), 64);
        for (int wrong : new int[] {1, 2, -1, 12, 31, 32, Integer.MIN_VALUE, Integer.MAX_VALUE}) {
            DUE.is("risk(" + wrong + ")", room.risk(wrong), PermitRoom.NUMBER);
        }
    }

    private static void right() {
        DUE.says("Whether a PERMIT was RIGHT at an HOUR as KNOWN at one: 1, 0; 2: it wasn't LIVE.");
        PermitRoom room = Due.roomOfValves(1);
        room.source(0, 0, true);
        Due.live(room, 1, 0, 1, 0);
        room.go(1);
        room.pipe(0, 1, 2);
        DUE.is("right: it was", room.right(0, 0, 0), 1);
        DUE.is("right: it wasn't", room.right(0, 0, 1), 0);
        room.hang(0);
        DUE.is("right: not live now", room.right(0, 1, 1), 2);
        DUE.says("NUMBER: there is no such PERMIT, or an HOUR isn't 0 to NOW.");
        for (int wrong : new int[] {-1, 1, 7, Integer.MIN_VALUE, Integer.MAX_VALUE}) {
            DUE.is("right: permit " + wrong, room.right(wrong, 0, 0), PermitRoom.NUMBER);
        }
        for (int wrong : new int[] {-1, 2, 300, 301, Integer.MIN_VALUE, Integer.MAX_VALUE}) {
            DUE.is("right: at hour " + wrong, room.right(0, wrong, 0), PermitRoom.NUMBER);
            DUE.is("right: as known at " + wrong, room.right(0, 0, wrong), PermitRoom.NUMBER);
        }
        Due.goTo(room, 300);
        DUE.is("right: at hour 300", room.right(0, 300, 300), 2);
        DUE.is("right: at hour 301", room.right(0, 301, 300), PermitRoom.NUMBER);
        DUE.is("right: as known at hour 301", room.right(0, 300, 301), PermitRoom.NUMBER);
    }

    /** So many permits that are asked, each with its own valve. */
    private static PermitRoom works(int count) {
        PermitRoom room = Due.roomOfValves(12);
        for (int w = 0; w < count; w++) {
            room.ask(0, 0, 1 << w);
        }
        return room;
    }

    private static void order() {
        DUE.says("MOVES of THE ORDER (0 without any PERMIT that is ASKED); its PROOF is told.");
        for (int count = 0; count <= 7; count++) {
            PermitRoom room = works(count);
            DUE.is("order: of " + count, room.order(), 2 * count);
            DUE.is("many: rows of " + count, room.many(9), count * (count + 1) / 2);
            DUE.is("check: of " + count, room.check(), -1);
        }
        PermitRoom room = works(1);
        room.order();
        room.isolate(0);
        DUE.is("order: none is asked any more", room.order(), 0);
        DUE.is("many: no rows", room.many(9), 0);
        DUE.is("ordered: none", room.ordered(0), PermitRoom.NONE);
    }

    private static void ordered() {
        DUE.says("The PERMIT at place i of THE ORDER that was told last. NONE: there is none such.");
        PermitRoom room = works(7);
        DUE.is("ordered: none was told", room.ordered(0), PermitRoom.NONE);
        room.order();
        for (int i = 0; i < 7; i++) {
            DUE.is("ordered(" + i + ")", room.ordered(i), i);
        }
        for (int wrong : new int[] {-1, 7, Integer.MIN_VALUE, Integer.MAX_VALUE}) {
            DUE.is("ordered(" + wrong + ")", room.ordered(wrong), PermitRoom.NONE);
        }
        room.isolate(0);
        DUE.is("ordered: as it was told", room.ordered(0), 0);
        DUE.is("ordered: as it was told, the last", room.ordered(6), 6);
        room.order();
        DUE.is("ordered: told again", room.ordered(0), 1);
        DUE.is("ordered: one fewer", room.ordered(6), PermitRoom.NONE);
    }

    private static void row() {
        DUE.says("Row i of THE ROWS: what = 0 place, 1 PERMIT, 2 MOVES. NUMBER: another what; NONE: there is none such.");
        PermitRoom room = works(7);
        DUE.is("row: none was told", room.row(0, 0), PermitRoom.NONE);
        room.order();
        for (int what = 0; what < 3; what++) {
            DUE.is("row: the first, " + what, room.row(0, what), what == 2 ? 14 : 0);
            DUE.is("row: the last, " + what, room.row(27, what), what == 2 ? 14 : 6);
            for (int wrong : new int[] {-1, 28, Integer.MIN_VALUE, Integer.MAX_VALUE}) {
                DUE.is("row: row " + wrong, room.row(wrong, what), PermitRoom.NONE);
            }
        }
        for (int wrong : NO_WHATS) {
            DUE.is("row: what " + wrong, room.row(0, wrong), PermitRoom.NUMBER);
            DUE.is("row: no row, what " + wrong, room.row(28, wrong), PermitRoom.NUMBER);
        }
    }

    private static void alter() {
        DUE.says("A number of a row becomes another one: what it was. NUMBER, NONE likewise.");
        PermitRoom room = works(7);
        DUE.is("alter: none was told", room.alter(0, 0, 0), PermitRoom.NONE);
        room.order();
        int[] values = {Integer.MIN_VALUE, -1, PermitRoom.NONE, 0, Integer.MAX_VALUE};
        for (int i = 0; i < 28; i += 27) {
            for (int what = 0; what < 3; what++) {
                int was = room.row(i, what);
                for (int value : values) {
                    DUE.is("alter: row " + i, room.alter(i, what, value), was);
                    DUE.is("row: altered, though below 0 was answered", room.row(i, what), value);
                    was = value;
                }
            }
        }
        for (int wrong : NO_WHATS) {
            DUE.is("alter: what " + wrong, room.alter(0, wrong, 5), PermitRoom.NUMBER);
            DUE.is("alter: no row, what " + wrong, room.alter(28, wrong, 5), PermitRoom.NUMBER);
        }
        for (int wrong : new int[] {-1, 28, Integer.MIN_VALUE, Integer.MAX_VALUE}) {
            DUE.is("alter: row " + wrong, room.alter(wrong, 0, 5), PermitRoom.NONE);
        }
    }

    private static void drop() {
        DUE.says("The latest row of THE ROWS goes: how many there are. NONE: there are none.");
        PermitRoom room = works(7);
        DUE.is("drop: none was told", room.drop(), PermitRoom.NONE);
        room.order();
        for (int left = 27; left >= 0; left--) {
            DUE.is("drop: " + left + " are left", room.drop(), left);
            DUE.is("row: the latest is gone", room.row(left, 0), PermitRoom.NONE);
            DUE.is("alter: the latest is gone", room.alter(left, 0, 0), PermitRoom.NONE);
            DUE.is("many: rows", room.many(9), left);
        }
        DUE.is("drop: none is left", room.drop(), PermitRoom.NONE);
        DUE.is("many: none is left", room.many(9), 0);
        room.order();
        DUE.is("many: told again", room.many(9), 28);
    }

    private static void check() {
        DUE.says("THE READER: the first row that is wrong; how many THE ROWS are, if these are right,"
            + " but fewer than THE PROOF; -1: all are right.");
        PermitRoom room = works(7);
        room.order();
        DUE.is("check: all are right", room.check(), -1);
        room.alter(27, 2, 0);
        DUE.is("check: the last is wrong", room.check(), 27);
        room.alter(0, 0, 1);
        DUE.is("check: the first is wrong", room.check(), 0);
        room.alter(0, 0, 0);
        for (int left = 27; left >= 0; left--) {
            room.drop();
            DUE.is("check: right, but fewer, " + left, room.check(), left);
        }
        DUE.is("order: told again", room.order(), 14);
        room.drop();
        room.alter(26, 1, -1);
        DUE.is("check: fewer, and the last is wrong", room.check(), 26);
        PermitRoom none = new PermitRoom();
        DUE.says("NONE: no ORDER was told.");
        DUE.is("check: none was told", none.check(), PermitRoom.NONE);
        none.order();
        DUE.is("check: an empty one was told", none.check(), -1);
    }

    private static void many() {
        DUE.says("NUMBER: another what.");
        PermitRoom room = new PermitRoom();
        for (int wrong : new int[] {-1, 11, Integer.MIN_VALUE, Integer.MAX_VALUE}) {
            DUE.is("many(" + wrong + ")", room.many(wrong), PermitRoom.NUMBER);
        }
        DUE.says("what = 0 NOW, 1 PIPES, 2 RULES, 3 PERMITS, 4 that are LIVE, 5 FITTINGS that are CLOSED, 6 MEN inside,"
            + " 7 MEN ON shift, 8 bytes on THE TAPE, 9 THE ROWS, 10 LOCKS in all");
        manyAre(room, 0, 0, 0, 0, 0, 0, 0, 8, 0, 0, 0);
        for (int i = 0; i < 12; i++) {
            room.pipe(0, 1, 0);
            Due.rule(room, "double gas");
        }
        Due.goTo(room, 300);
        for (int w = 0; w < 7; w++) {
            room.ask(0, 0, 4095);
        }
        room.order();
        Due.feed(room, " ".repeat(60));
        room.turn(11, true);
        manyAre(room, 300, 12, 12, 7, 0, 1, 0, 8, 60, 28, 0);
        for (int w = 0; w < 7; w++) {
            room.hold(w, 0);
            room.isolate(w);
            room.start(w);
        }
        for (int man = 0; man < 8; man++) {
            room.enter(man, 6);
        }
        manyAre(room, 300, 12, 12, 7, 7, 12, 8, 8, 60, 28, 84);
        room.siren();
        for (int man = 0; man < 8; man++) {
            room.shift(man, false);
        }
        for (int w = 0; w < 7; w++) {
            room.back(w);
        }
        manyAre(room, 300, 12, 12, 7, 0, 1, 0, 0, 60, 28, 0);
    }

    private static void manyAre(PermitRoom room, int... due) {
        for (int what = 0; what < due.length; what++) {
            DUE.is("many(" + what + ")", room.many(what), due[what]);
        }
    }
}
