import java.io.IOException;
import java.util.ArrayList;
import java.util.List;
import java.util.function.Consumer;
import java.util.function.Supplier;
import java.util.function.ToIntFunction;

/**
 * A refused call changes nothing: each refusal that the document names is made in a busy room or a full one, and then
 * every question, and every call that would tell what can't be asked for, answers as in a room where it wasn't made.
 */
public final class RefusalsTest {
    private static final Due DUE = new Due();
    private static final List<ToIntFunction<PermitRoom>> QUESTIONS = new ArrayList<>();

    private final Supplier<PermitRoom> rooms;
    private final int[] due;

    private RefusalsTest(Supplier<PermitRoom> rooms) {
        this.rooms = rooms;
        due = new int[QUESTIONS.size()];
        for (int i = 0; i < due.length; i++) {
            due[i] = QUESTIONS.get(i).applyAsInt(rooms.get());
        }
    }

    public static void main(String[] args) throws IOException {
        gatherQuestions();
        DUE.says("A call that is refused (answers below 0, where not told otherwise) changes nothing.");
        inABusyRoom(new RefusalsTest(RefusalsTest::busy));
        inAFullRoom(new RefusalsTest(RefusalsTest::full));
        barsOfTheirOwn();
        DUE.says("(and is empty then, whatever is answered)");
        rulesThatAreRefused();
        DUE.says("Of several refusals that a call names the first one named is answered.");
        firstOneNamed();
        DUE.says("(answers below 0, where not told otherwise)");
        belowZeroButDone();
        DUE.quotedFrom(args);
        DUE.end();
    }

    private void refused(String call, int answer, ToIntFunction<PermitRoom> made) {
        DUE.is(call, made.applyAsInt(rooms.get()), answer);
        isUnchanged(call, room -> made.applyAsInt(room));
    }

    private void isUnchanged(String call, Consumer<PermitRoom> made) {
        int unlike = 0;
        for (int i = 0; i < due.length; i++) {
            PermitRoom room = rooms.get();
            made.accept(room);
            unlike += QUESTIONS.get(i).applyAsInt(room) == due[i] ? 0 : 1;
        }
        DUE.is(call + ": questions that are answered in another way then", unlike, 0);
    }

    /** A permit in each state (0 and 6 are asked), men inside, off and on, rules struck or not, a rule half told. */
    private static PermitRoom busy() {
        PermitRoom room = new PermitRoom();
        room.source(0, 0, true);
        room.source(9, 2, true);
        room.pipe(0, 1, 0);
        room.pipe(1, 2, 0);
        room.pipe(2, 3, 1);
        room.pipe(3, 4, 2);
        Due.rule(room, "double gas");
        Due.rule(room, "bar hot vessel within 2");
        Due.rule(room, "watch cold 9");
        room.ask(4, 0, 0b011);
        Due.ready(room, 1, 1, 0b000, 1);
        Due.ready(room, 2, 1, 0b011, 2);
        Due.live(room, 3, 2, 0b111, 3);
        Due.live(room, 5, 0, 0b100, 4);
        Due.ready(room, 6, 0, 0b000, 5);
        room.back(5);
        room.ask(2, 0, 0b110);
        room.go(2);
        room.strike(0);
        room.hang(4);
        room.turn(0, true);
        room.pipe(4, 5, 0);
        room.go(1);
        room.shift(6, false);
        room.enter(0, 3);
        room.enter(7, 3);
        room.order();
        room.alter(1, 2, 77);
        Due.feed(room, "double st");
        return room;
    }

    private static PermitRoom full() {
        PermitRoom room = new PermitRoom();
        room.source(0, 0, true);
        for (int i = 0; i < 12; i++) {
            room.pipe(i % 10, (i + 1) % 10, i % 2);
        }
        for (int r = 0; r < 12; r++) {
            Due.rule(room, r % 2 == 0 ? "need hot test 3" : "men hot 8");
        }
        Due.goTo(room, 290);
        for (int w = 0; w < 7; w++) {
            room.ask(w, 1, 1 << w);
        }
        room.order();
        for (int w = 0; w < 7; w++) {
            room.hold(w, w);
            room.isolate(w);
            room.test(w, w);
            room.start(w);
        }
        Due.goTo(room, 300);
        Due.feed(room, "double gas" + " ".repeat(50));
        return room;
    }

    private static void gatherQuestions() {
        askOfNumbers();
        askOfPlacesAndPipes();
        askOfPermits();
        askOfRows();
        doToBeSeen();
    }

    private static void askOfNumbers() {
        for (int i = 0; i < 12; i++) {
            int what = i;
            QUESTIONS.add(room -> room.many(what));
            QUESTIONS.add(room -> room.risk(what));
            for (int k = 0; k < 6; k++) {
                int part = k;
                QUESTIONS.add(room -> room.of(what, part));
                QUESTIONS.add(room -> room.ruleOf(what, part));
            }
        }
    }

    private static void askOfPlacesAndPipes() {
        for (int i = 0; i < 10; i++) {
            int place = i;
            QUESTIONS.add(room -> room.safe(place));
            QUESTIONS.add(room -> room.leastSet(place));
            for (int k = 0; k < place; k++) {
                int other = k;
                QUESTIONS.add(room -> room.barriers(place, other));
                QUESTIONS.add(room -> room.apart(place, other));
            }
        }
    }

    private static void askOfPermits() {
        for (int i = 0; i < 7; i++) {
            int permit = i;
            QUESTIONS.add(room -> room.quarrels(permit));
            for (int k = 0; k < 9; k++) {
                int what = k;
                QUESTIONS.add(room -> room.permitOf(permit, what));
                QUESTIONS.add(room -> room.may(permit, what));
            }
            for (int h = 0; h <= 3; h++) {
                int hour = h;
                QUESTIONS.add(room -> room.right(permit, hour, 3));
                QUESTIONS.add(room -> room.right(permit, 300 - hour, 300));
                QUESTIONS.add(room -> room.right(permit, 2, hour));
            }
        }
    }

    private static void askOfRows() {
        QUESTIONS.add(PermitRoom::check);
        for (int i = 0; i < 28; i++) {
            int row = i;
            QUESTIONS.add(room -> room.ordered(row));
            for (int k = 0; k < 3; k++) {
                int what = k;
                QUESTIONS.add(room -> room.row(row, what));
            }
        }
    }

    /** Who is on shift, inside or holds what, the bytes on the tape, and a proof that isn't altered: by calls alone. */
    private static void doToBeSeen() {
        for (int m = 0; m < 8; m++) {
            int man = m;
            QUESTIONS.add(room -> room.leave(man));
            QUESTIONS.add(room -> room.shift(man, true));
            QUESTIONS.add(room -> room.shift(man, false));
            QUESTIONS.add(room -> room.enter(man, 3));
        }
        for (int hazard = 0; hazard < 3; hazard++) {
            int which = hazard;
            for (int p = 0; p < 10; p++) {
                int place = p;
                QUESTIONS.add(room -> room.source(place, which, true));
            }
        }
        for (int p = 0; p < 12; p++) {
            int pipe = p;
            QUESTIONS.add(room -> room.turn(pipe, true));
            QUESTIONS.add(room -> room.turn(pipe, false));
        }
        QUESTIONS.add(PermitRoom::rule);
        QUESTIONS.add(room -> Due.rule(room, "eam"));
        QUESTIONS.add(room -> room.alter(1, 2, 0) + 1000 * room.check());
        QUESTIONS.add(PermitRoom::siren);
        QUESTIONS.add(PermitRoom::order);
        QUESTIONS.add(room -> room.go(1));
    }

    private static void inABusyRoom(RefusalsTest test) {
        test.net();
        test.rules();
        test.numbersOfPermits();
        test.statesAndBars();
        test.men();
        test.sets();
        test.rows();
    }

    private void net() {
        refused("pipe: no place", PermitRoom.NUMBER, room -> room.pipe(-1, 1, 0));
        refused("pipe: no other place", PermitRoom.NUMBER, room -> room.pipe(1, 10, 0));
        refused("pipe: the same", PermitRoom.NUMBER, room -> room.pipe(7, 7, 0));
        refused("pipe: no fitting", PermitRoom.NUMBER, room -> room.pipe(7, 8, 3));
        refused("of: no pipe", PermitRoom.NUMBER, room -> room.of(5, 0));
        refused("of: what", PermitRoom.NUMBER, room -> room.of(0, 6));
        refused("source: no place", PermitRoom.NUMBER, room -> room.source(10, 0, true));
        refused("source: no hazard", PermitRoom.NUMBER, room -> room.source(1, 3, true));
        refused("turn: no pipe", PermitRoom.NUMBER, room -> room.turn(5, true));
        refused("turn: no fitting", PermitRoom.NUMBER, room -> room.turn(3, true));
        refused("turn: locked", PermitRoom.LOCKED, room -> room.turn(1, false));
        refused("turn: locked, closed by hand too", PermitRoom.LOCKED, room -> room.turn(0, false));
        refused("safe: no place", PermitRoom.NUMBER, room -> room.safe(10));
        refused("barriers: no place", PermitRoom.NUMBER, room -> room.barriers(0, 10));
        refused("barriers: no row", PermitRoom.NONE, room -> room.barriers(0, 9));
        refused("apart: no place", PermitRoom.NUMBER, room -> room.apart(-1, 0));
        refused("apart: no row", PermitRoom.NONE, room -> room.apart(0, 9));
        refused("go: none", PermitRoom.NUMBER, room -> room.go(0));
        refused("go: too many", PermitRoom.NUMBER, room -> room.go(49));
    }

    private void rules() {
        refused("feed: none", PermitRoom.NUMBER, room -> room.feed('e', 0));
        refused("feed: nine", PermitRoom.NUMBER, room -> room.feed('e', 9));
        refused("strike: none such", PermitRoom.NUMBER, room -> room.strike(3));
        refused("strike: it was", PermitRoom.STATE, room -> room.strike(0));
        refused("ruleOf: none such", PermitRoom.NUMBER, room -> room.ruleOf(3, 0));
        refused("ruleOf: what", PermitRoom.NUMBER, room -> room.ruleOf(0, 5));
        refused("ruleOf: of double", PermitRoom.NONE, room -> room.ruleOf(0, 2));
    }

    private void numbersOfPermits() {
        PermitRoom room = busy();
        for (int permit = 0; permit < 7; permit++) {
            int[] states = {0, 2, 2, 3, 4, 5, 0};
            DUE.is("busy: state of " + permit, room.permitOf(permit, 3), states[permit]);
        }
        int[] wrong = {-1, 7};
        for (int none : wrong) {
            refused("hold: no permit", -9, r -> r.hold(none, 1));
            refused("isolate: none such", PermitRoom.NUMBER, r -> r.isolate(none));
            refused("test: none such", PermitRoom.NUMBER, r -> r.test(none, 1));
            refused("start: none such", PermitRoom.NUMBER, r -> r.start(none));
            refused("hang: none such", PermitRoom.NUMBER, r -> r.hang(none));
            refused("back: none such", PermitRoom.NUMBER, r -> r.back(none));
            refused("may: none such", PermitRoom.NUMBER, r -> r.may(none, 0));
            refused("quarrels: none such", PermitRoom.NUMBER, r -> r.quarrels(none));
            refused("permitOf: none such", PermitRoom.NUMBER, r -> r.permitOf(none, 0));
            refused("enter: none such", PermitRoom.NUMBER, r -> r.enter(1, none));
            refused("right: none such", PermitRoom.NUMBER, r -> r.right(none, 0, 0));
        }
        refused("ask: no place", PermitRoom.NUMBER, r -> r.ask(10, 0, 0));
        refused("ask: no sort", PermitRoom.NUMBER, r -> r.ask(0, 3, 0));
        refused("ask: no pipe", PermitRoom.NUMBER, r -> r.ask(0, 0, 32));
        refused("ask: no fitting", PermitRoom.NUMBER, r -> r.ask(0, 0, 8));
        refused("ask: full", PermitRoom.FULL, r -> r.ask(0, 0, 0));
        refused("hold: no man", -9, r -> r.hold(0, 8));
        refused("hold: no man below", -9, r -> r.hold(0, -2));
        refused("test: below", PermitRoom.NUMBER, r -> r.test(2, -1));
        refused("test: above", PermitRoom.NUMBER, r -> r.test(2, 101));
        refused("may: no act", PermitRoom.NUMBER, r -> r.may(0, 6));
        refused("quarrels: none", PermitRoom.NONE, r -> r.quarrels(0));
        refused("permitOf: what", PermitRoom.NUMBER, r -> r.permitOf(0, 9));
        refused("permitOf: no holder", PermitRoom.NONE, r -> r.permitOf(0, 4));
    }

    private void statesAndBars() {
        refused("hold: back", PermitRoom.STATE, room -> room.hold(5, 1));
        refused("hold: live, one that is off", PermitRoom.STATE, room -> room.hold(3, 6));
        refused("hold: live, none", PermitRoom.STATE, room -> room.hold(3, -1));
        refused("isolate: tested", PermitRoom.BAR - 1, room -> room.isolate(1));
        refused("isolate: live", PermitRoom.BAR - 1, room -> room.isolate(3));
        refused("isolate: back", PermitRoom.BAR - 1, room -> room.isolate(5));
        refused("test: asked", PermitRoom.BAR - 1, room -> room.test(0, 1));
        refused("test: back", PermitRoom.BAR - 1, room -> room.test(5, 1));
        refused("start: asked", PermitRoom.BAR - 1, room -> room.start(0));
        refused("start: live", PermitRoom.BAR - 1, room -> room.start(3));
        refused("start: back", PermitRoom.BAR - 1, room -> room.start(5));
        refused("start: a quarrel", PermitRoom.BAR - 4, room -> room.start(2));
        refused("hang: asked", PermitRoom.BAR - 1, room -> room.hang(0));
        refused("hang: hung", PermitRoom.BAR - 1, room -> room.hang(4));
        refused("hang: men are inside", PermitRoom.BAR - 7, room -> room.hang(3));
        refused("back: asked", PermitRoom.BAR - 1, room -> room.back(0));
        refused("back: live", PermitRoom.BAR - 1, room -> room.back(3));
        refused("back: back", PermitRoom.BAR - 1, room -> room.back(5));
        refused("back: watched", PermitRoom.BAR - 8, room -> room.back(4));
        refused("enter: asked", PermitRoom.BAR - 1, room -> room.enter(1, 0));
        refused("enter: hung", PermitRoom.BAR - 1, room -> room.enter(1, 4));
    }

    private void men() {
        refused("enter: no man", PermitRoom.NUMBER, room -> room.enter(8, 3));
        refused("enter: off", PermitRoom.STATE, room -> room.enter(6, 3));
        refused("enter: inside", PermitRoom.STATE, room -> room.enter(7, 3));
        refused("leave: no man", PermitRoom.NUMBER, room -> room.leave(8));
        refused("leave: out", PermitRoom.STATE, room -> room.leave(1));
        refused("shift: no man", PermitRoom.NUMBER, room -> room.shift(8, false));
        refused("shift: on already", PermitRoom.STATE, room -> room.shift(1, true));
        refused("shift: off already", PermitRoom.STATE, room -> room.shift(6, false));
        refused("shift: inside", PermitRoom.STATE, room -> room.shift(7, false));
        refused("shift: holds a live one", PermitRoom.STATE, room -> room.shift(3, false));
    }

    private void sets() {
        refused("least: no place", PermitRoom.NUMBER, room -> room.least(10));
        refused("least: none", PermitRoom.NONE, room -> room.least(0));
        refused("leastSet: no place", PermitRoom.NUMBER, room -> room.leastSet(-1));
        refused("leastSet: none", PermitRoom.NONE, room -> room.leastSet(9));
        refused("risk: no pipe", PermitRoom.NUMBER, room -> room.risk(5));
        refused("risk: no fitting", PermitRoom.NUMBER, room -> room.risk(3));
        refused("right: hour", PermitRoom.NUMBER, room -> room.right(0, 4, 0));
        refused("right: known", PermitRoom.NUMBER, room -> room.right(0, 0, 4));
    }

    private void rows() {
        refused("ordered: none such", PermitRoom.NONE, room -> room.ordered(2));
        refused("row: what", PermitRoom.NUMBER, room -> room.row(0, 3));
        refused("row: none such", PermitRoom.NONE, room -> room.row(3, 0));
        refused("alter: what", PermitRoom.NUMBER, room -> room.alter(0, 3, 5));
        refused("alter: none such", PermitRoom.NONE, room -> room.alter(3, 0, 5));
        refused("many: another what", PermitRoom.NUMBER, room -> room.many(11));
        isUnchanged("check: a wrong row", PermitRoom::check);
    }

    private static void inAFullRoom(RefusalsTest test) {
        test.refused("pipe: full", PermitRoom.FULL, room -> room.pipe(0, 9, 2));
        test.refused("feed: full", PermitRoom.FULL, room -> room.feed('x', 1));
        test.refused("ask: full", PermitRoom.FULL, room -> room.ask(0, 0, 0));
        test.refused("go: above 300", PermitRoom.NUMBER, room -> room.go(1));
        test.refused("go: far above 300", PermitRoom.NUMBER, room -> room.go(48));
        test.refused("enter: no good test", PermitRoom.BAR - 3, room -> room.enter(7, 3));
        RefusalsTest empty = new RefusalsTest(PermitRoom::new);
        empty.refused("drop: no rows", PermitRoom.NONE, PermitRoom::drop);
        empty.refused("check: no order", PermitRoom.NONE, PermitRoom::check);
        RefusalsTest almostFull = new RefusalsTest(RefusalsTest::almostFullTape);
        almostFull.refused("feed: five, and four may come", PermitRoom.FULL, room -> room.feed(0x7878_7878_78L, 5));
    }

    /** The bars that nothing in the busy room makes: permit 4 may start there, and a man may enter for permit 3. */
    private static void barsOfTheirOwn() {
        DUE.is("start: may", busy().start(4), 1);
        DUE.is("enter: may", busy().enter(1, 3), 3);
        busyAnd(room -> room.source(5, 1, true)).refused("start: not safe", PermitRoom.BAR - 2, room -> room.start(4));
        busyAnd(room -> Due.rule(room, "need cold test 2"))
            .refused("start: an old test", PermitRoom.BAR - 3, room -> room.start(4));
        busyAnd(room -> room.test(4, 11) + Due.rule(room, "need cold test 9"))
            .refused("start: a bad test", PermitRoom.BAR - 3, room -> room.start(4));
        busyAnd(room -> Due.rule(room, "hours cold 4 to 2"))
            .refused("start: off hours", PermitRoom.BAR - 5, room -> room.start(4));
        busyAnd(room -> room.hold(4, -1)).refused("start: no holder", PermitRoom.BAR - 6, room -> room.start(4));
        busyAnd(room -> room.hold(4, 6)).refused("start: he is off", PermitRoom.BAR - 6, room -> room.start(4));
        busyAnd(room -> Due.rule(room, "need vessel test 2"))
            .refused("enter: an old test", PermitRoom.BAR - 3, room -> room.enter(1, 3));
        busyAnd(room -> Due.rule(room, "hours vessel 4 to 2"))
            .refused("enter: off hours", PermitRoom.BAR - 5, room -> room.enter(1, 3));
        busyAnd(room -> Due.rule(room, "men vessel 2"))
            .refused("enter: two are inside", PermitRoom.BAR - 7, room -> room.enter(1, 3));
    }

    private static RefusalsTest busyAnd(ToIntFunction<PermitRoom> more) {
        return new RefusalsTest(() -> {
            PermitRoom room = busyWithEmptyTape();
            more.applyAsInt(room);
            return room;
        });
    }

    private static PermitRoom almostFullTape() {
        PermitRoom room = new PermitRoom();
        Due.feed(room, " ".repeat(47) + "double st");
        return room;
    }

    /** All is as if nothing had been fed. */
    private static void rulesThatAreRefused() {
        RefusalsTest faulty = new RefusalsTest(RefusalsTest::busyWithEmptyTape);
        DUE.is("rule: a fault", busy().rule(), PermitRoom.FAULT - 7);
        faulty.isUnchanged("rule: a fault", room -> Due.rule(room, "double st"));
        faulty.isUnchanged("rule: more must come", room -> Due.rule(room, "hours cold 3 to"));
        RefusalsTest fullBook = new RefusalsTest(RefusalsTest::fullWithEmptyTape);
        DUE.is("rule: full", full().rule(), PermitRoom.FULL);
        fullBook.isUnchanged("rule: full", room -> Due.rule(room, "double gas"));
        fullBook.isUnchanged("rule: a fault in a full book", room -> Due.rule(room, "double"));
    }

    private static PermitRoom busyWithEmptyTape() {
        PermitRoom room = busy();
        room.rule();
        return room;
    }

    private static PermitRoom fullWithEmptyTape() {
        PermitRoom room = full();
        room.rule();
        return room;
    }

    private static void firstOneNamed() {
        PermitRoom full = full();
        DUE.is("pipe: a number, and full", full.pipe(0, 0, 0), PermitRoom.NUMBER);
        DUE.is("feed: a number, and full", full.feed(0, 9), PermitRoom.NUMBER);
        DUE.is("ask: a number, and full", full.ask(0, 0, 1 << 12), PermitRoom.NUMBER);
        full.rule();
        DUE.is("rule: a fault, and full", Due.rule(full, "x"), PermitRoom.FAULT);
        PermitRoom room = busy();
        DUE.is("hold: no man, and back", room.hold(5, 8), -9);
        DUE.is("test: a number, and barred", room.test(0, 101), PermitRoom.NUMBER);
        DUE.is("enter: no permit, and he is inside", room.enter(7, 7), PermitRoom.NUMBER);
        DUE.is("enter: no permit, and he is off", room.enter(6, 7), PermitRoom.NUMBER);
        DUE.is("enter: inside, and barred", room.enter(7, 4), PermitRoom.STATE);
        DUE.is("enter: off, and barred", room.enter(6, 4), PermitRoom.STATE);
        DUE.is("row: what, and no row", room.row(3, 3), PermitRoom.NUMBER);
        DUE.is("alter: what, and no row", room.alter(3, 3, 5), PermitRoom.NUMBER);
    }

    private static void belowZeroButDone() {
        PermitRoom room = busy();
        DUE.is("hold: none was", room.hold(0, 1), -1);
        DUE.is("permitOf: he holds it", room.permitOf(0, 4), 1);
        DUE.is("alter", room.alter(0, 0, -3), 0);
        DUE.is("alter: it was below 0", room.alter(0, 0, 4), -3);
        DUE.is("row: altered", room.row(0, 0), 4);
        PermitRoom told = new PermitRoom();
        told.order();
        DUE.is("check: all are right", told.check(), -1);
    }
}
