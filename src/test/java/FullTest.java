/** A room that is as full as may be, and numbers that are none: every call still answers. */
public final class FullTest {
    private static final Due DUE = new Due();
    private static final int[] NUMBERS = {
        Integer.MIN_VALUE, -100, -9, -3, -2, -1, 0, 6, 7, 8, 9, 10, 11, 12, 27, 28, 31, 32, 60, 300, 301, 4095, 4096,
        Integer.MAX_VALUE,
    };

    public static void main(String[] args) {
        fullRoom();
        wildNumbers(new PermitRoom());
        wildNumbers(filled());
        DUE.end();
    }

    /** Twelve pipes, twelve rules, seven live permits, eight men inside, at hour 300 with a full tape. */
    private static PermitRoom filled() {
        PermitRoom room = new PermitRoom();
        for (int i = 0; i < 12; i++) {
            room.pipe(i % 10, (i + 1) % 10, 0);
        }
        String[] rules = {
            "men hot 8", "need hot test 48", "bar hot cold within 9", "double gas", "hours hot 0 to 23", "watch hot 24",
        };
        for (int i = 0; i < 12; i++) {
            DUE.is("filled: rule", Due.rule(room, rules[i % 6]), i);
        }
        room.source(9, 0, true);
        for (int i = 0; i < 6; i++) {
            room.go(48);
        }
        room.go(12);
        for (int w = 0; w < 7; w++) {
            DUE.is("filled: ask", room.ask(w % 3 + 3, 1, 4095), w);
        }
        room.order();
        DUE.is("filled: rows", room.many(9), 28);
        for (int w = 0; w < 7; w++) {
            room.hold(w, 7);
            room.isolate(w);
            room.test(w, 10);
            DUE.is("filled: start", room.start(w), 1);
        }
        for (int man = 0; man < 8; man++) {
            DUE.is("filled: enter", room.enter(man, man < 7 ? man : 0), man < 7 ? 1 : 2);
        }
        for (int i = 0; i < 60; i++) {
            room.feed('z', 1);
        }
        return room;
    }

    private static void fullRoom() {
        PermitRoom room = filled();
        int[] due = {300, 12, 12, 7, 7, 12, 8, 8, 60, 28, 84};
        for (int what = 0; what < due.length; what++) {
            DUE.is("full: many(" + what + ")", room.many(what), due[what]);
        }
        DUE.is("full: pipe", room.pipe(0, 1, 0), PermitRoom.FULL);
        DUE.is("full: feed", room.feed(32, 1), PermitRoom.FULL);
        DUE.is("full: ask", room.ask(0, 0, 0), PermitRoom.FULL);
        DUE.is("full: a word of 60 letters", room.rule(), PermitRoom.FAULT);
        DUE.is("full: rule", Due.rule(room, "double gas"), PermitRoom.FULL);
        for (int w = 0; w < 7; w++) {
            DUE.is("full: quarrels", room.quarrels(w), PermitRoom.NONE);
            DUE.is("full: right", room.right(w, 300, 300), 1);
            DUE.is("full: not live then", room.right(w, 299, 300), 2);
        }
        DUE.is("full: least", room.least(5), 4);
        DUE.is("full: leastSet", room.leastSet(5), 0b1101100);
        DUE.is("full: risk", room.risk(11), 0);
        DUE.is("full: hang", room.hang(6), PermitRoom.BAR - 7);
        DUE.is("full: siren", room.siren(), 8);
        DUE.is("full: back", room.back(6), PermitRoom.BAR - 8);
        DUE.is("full: check", room.check(), -1);
    }

    /** What is answered is told elsewhere; here a call that throws ends the test. */
    private static void wildNumbers(PermitRoom room) {
        int answers = 0;
        for (int a : NUMBERS) {
            answers += oneNumber(room, a);
            for (int b : NUMBERS) {
                answers += twoNumbers(room, a, b);
                for (int c : NUMBERS) {
                    answers += threeNumbers(room, a, b, c);
                }
            }
        }
        int n = NUMBERS.length;
        DUE.is("wild: how many calls answered", answers, 18 * n + 12 * n * n + 4 * n * n * n);
    }

    private static int oneNumber(PermitRoom room, int a) {
        int[] answers = {
            room.safe(a), room.go(a), room.strike(a), room.isolate(a), room.start(a), room.hang(a), room.back(a),
            room.quarrels(a), room.leave(a), room.shift(a, true), room.shift(a, false), room.least(a), room.leastSet(a),
            room.risk(a), room.ordered(a), room.many(a), room.turn(a, true), room.turn(a, false),
        };
        return answers.length;
    }

    private static int twoNumbers(PermitRoom room, int a, int b) {
        int[] answers = {
            room.of(a, b), room.source(a, b, true), room.barriers(a, b), room.apart(a, b), room.feed(a, b),
            room.ruleOf(a, b), room.hold(a, b), room.test(a, b), room.may(a, b), room.permitOf(a, b), room.enter(a, b),
            room.row(a, b),
        };
        room.rule();
        room.order();
        room.drop();
        room.check();
        return answers.length;
    }

    private static int threeNumbers(PermitRoom room, int a, int b, int c) {
        int[] answers = {room.pipe(a, b, c), room.ask(a, b, c), room.right(a, b, c), room.alter(a, b, c)};
        return answers.length;
    }
}
