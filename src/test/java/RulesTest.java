/** Promises 10 to 13: the tape and the rules. */
public final class RulesTest {
    private static final Due DUE = new Due();

    public static void main(String[] args) {
        feeding();
        goodTexts();
        faults();
        tapeIsEmptyThen();
        fullBook();
        striking();
        partsOfARule();
        DUE.end();
    }

    private static void feeding() {
        PermitRoom room = new PermitRoom();
        DUE.is("feed: none", room.feed(1, 0), PermitRoom.NUMBER);
        DUE.is("feed: below", room.feed(1, -1), PermitRoom.NUMBER);
        DUE.is("feed: nine", room.feed(1, 9), PermitRoom.NUMBER);
        DUE.is("feed: eight", room.feed(-1L, 8), 8);
        for (int i = 2; i <= 7; i++) {
            DUE.is("feed: eight more", room.feed(0, 8), 8 * i);
        }
        DUE.is("feed: 61 are too many", room.feed(0, 5), PermitRoom.FULL);
        DUE.is("feed: nothing came", room.many(8), 56);
        DUE.is("feed: wrong is named ahead of full", room.feed(0, 9), PermitRoom.NUMBER);
        DUE.is("feed: 60", room.feed(0, 4), 60);
        DUE.is("feed: full", room.feed(0, 1), PermitRoom.FULL);
        PermitRoom other = new PermitRoom();
        other.feed('d' | 'o' << 8 | 'x' << 16, 2);
        Due.feed(other, "uble power");
        DUE.is("feed: the lowest bytes, the lowest first", other.rule(), 0);
    }

    private static void goodTexts() {
        String[] texts = {
            "need cold test 1", "need vessel test 48", "  bar   hot cold  within 0  ", "bar vessel vessel within 009",
            "double power", "men cold 012", "men vessel 1", "hours hot 0 to 23", "hours hot 23 to 000",
            "watch cold 24", "watch hot 1", "double steam",
        };
        int[][] parts = {
            {0, 0, 1, -3, 1}, {0, 2, 48, -3, 1}, {1, 1, 0, 0, 1}, {1, 2, 2, 9, 1},
            {2, 2, -3, -3, 1}, {3, 0, 12, -3, 1}, {3, 2, 1, -3, 1}, {4, 1, 0, 23, 1}, {4, 1, 23, 0, 1},
            {5, 0, 24, -3, 1}, {5, 1, 1, -3, 1}, {2, 1, -3, -3, 1},
        };
        PermitRoom room = new PermitRoom();
        for (int r = 0; r < texts.length; r++) {
            DUE.is("rule: " + texts[r], Due.rule(room, texts[r]), r);
            for (int what = 0; what < 5; what++) {
                DUE.is(texts[r] + ": ruleOf what " + what, room.ruleOf(r, what), parts[r][what]);
            }
        }
        DUE.is("rule: how many", room.many(2), 12);
    }

    private static void faults() {
        fault("", 0);
        fault("    ", 4);
        fault("needs hot test 1", 0);
        fault("nee", 0);
        fault("needa hot test 1", 0);
        fault("needz hot test 1", 0);
        fault("need` hot test 1", 4);
        fault("need{ hot test 1", 4);
        fault("need hot test 1/", 15);
        fault("need hot test 1:", 15);
        fault("need", 4);
        fault("need ", 5);
        fault("needhot test 1", 0);
        fault("need warm test 1", 5);
        fault("need gas test 1", 5);
        fault("need hot", 8);
        fault("need hot tests 1", 9);
        fault("need hot  1", 10);
        fault("need hot test", 13);
        fault("need hot test ", 14);
        fault("need hot test one", 14);
        fault("need hot test 0", 14);
        fault("need hot test 49", 14);
        fault("need hot test 0001", 14);
        fault("need hot test4", 13);
        fault("need hot test 4 5", 16);
        fault("need hot test 4x", 15);
        fault("need hot test 4.", 15);
        fault("need hot test -4", 14);
        fault("\tneed hot test 4", 0);
        fault("need\thot test 4", 4);
        fault("need hot test 4\n", 15);
        fault("need hot\u00e9 test 4", 8);
        fault("NEED hot test 4", 0);
        fault("bar hot", 7);
        fault("bar hot within 1", 8);
        fault("bar hot hot 1", 12);
        fault("bar hot hot within 10", 19);
        fault("bar hot hot within", 18);
        fault("double", 6);
        fault("double hot", 7);
        fault("double gas 1", 11);
        fault("men hot 0", 8);
        fault("men hot 13", 8);
        fault("men gas 1", 4);
        fault("hours hot 24 to 1", 10);
        fault("hours hot 1 to 24", 15);
        fault("hours hot 1 til 2", 12);
        fault("hours hot 1to 2", 11);
        fault("hours hot 1 to2", 14);
        fault("hours hot 1", 11);
        fault("hours hot 1 to", 14);
        fault("watch hot 0", 10);
        fault("watch hot 25", 10);
        fault("watch hot hot", 10);
        fault("7 hot", 0);
    }

    private static void fault(String text, int place) {
        PermitRoom room = new PermitRoom();
        DUE.is("rule: '" + text + "'", Due.rule(room, text), PermitRoom.FAULT - place);
        DUE.is("rule: none came of '" + text + "'", room.many(2), 0);
        DUE.is("rule: empty after '" + text + "'", room.many(8), 0);
    }

    private static void tapeIsEmptyThen() {
        PermitRoom room = new PermitRoom();
        Due.rule(room, "double gas");
        DUE.is("rule: the tape is empty", room.many(8), 0);
        DUE.is("rule: and tells nothing again", room.rule(), PermitRoom.FAULT);
        DUE.is("rule: behind a fault", Due.rule(room, "double gas"), 1);
    }

    private static void fullBook() {
        PermitRoom room = new PermitRoom();
        for (int r = 0; r < 12; r++) {
            DUE.is("rule " + r, Due.rule(room, "men hot 1"), r);
        }
        DUE.is("rule: a fault is named ahead of full", Due.rule(room, "men hot"), PermitRoom.FAULT - 7);
        DUE.is("rule: full", Due.rule(room, "men hot 1"), PermitRoom.FULL);
        DUE.is("rule: the tape is empty", room.many(8), 0);
        room.strike(3);
        DUE.is("rule: struck ones count", Due.rule(room, "men hot 1"), PermitRoom.FULL);
    }

    private static void striking() {
        PermitRoom room = new PermitRoom();
        room.go(7);
        Due.rule(room, "double gas");
        DUE.is("strike: none such", room.strike(1), PermitRoom.NUMBER);
        DUE.is("strike: below", room.strike(-1), PermitRoom.NUMBER);
        DUE.is("strike", room.strike(0), 1);
        DUE.is("strike: not in force in that hour", room.ruleOf(0, 4), 0);
        DUE.is("strike: again", room.strike(0), PermitRoom.STATE);
        room.go(1);
        DUE.is("strike: again later", room.strike(0), PermitRoom.STATE);
    }

    private static void partsOfARule() {
        PermitRoom room = new PermitRoom();
        Due.rule(room, "bar cold vessel within 4");
        int[] due = {1, 0, 2, 4, 1};
        for (int what = 0; what < 5; what++) {
            DUE.is("ruleOf(0, " + what + ")", room.ruleOf(0, what), due[what]);
        }
        DUE.is("ruleOf(0, 5)", room.ruleOf(0, 5), PermitRoom.NUMBER);
        DUE.is("ruleOf(0, -1)", room.ruleOf(0, -1), PermitRoom.NUMBER);
        DUE.is("ruleOf(1, 0)", room.ruleOf(1, 0), PermitRoom.NUMBER);
        DUE.is("ruleOf(-1, 0)", room.ruleOf(-1, 0), PermitRoom.NUMBER);
    }
}
