import java.io.IOException;

/** Term 2, the tape and the rules: each sentence that names an edge has answers of its own. */
public final class TermTwoTest {
    private static final Due DUE = new Due();

    public static void main(String[] args) throws IOException {
        mostBytes();
        words();
        numbers();
        blanks();
        need();
        bar();
        doubled();
        men();
        hours();
        watch();
        sorts();
        hazards();
        firstThatCantStand();
        numberNotAsTold();
        moreMustCome();
        mostRules();
        inForceFrom();
        inForceUntil();
        DUE.quotedFrom(args);
        DUE.end();
    }

    private static void good(String text) {
        DUE.is("rule: '" + text + "'", Due.rule(new PermitRoom(), text), 0);
    }

    private static void fault(String text, int place) {
        DUE.is("rule: '" + text + "'", Due.rule(new PermitRoom(), text), PermitRoom.FAULT - place);
    }

    /** The rule's text with a number instead of the sign N: just inside and just outside of what may be. */
    private static void numberFromTo(String text, int lowest, int highest) {
        int at = text.indexOf('N');
        good(text.replace("N", "" + lowest));
        good(text.replace("N", "" + highest));
        fault(text.replace("N", "" + (highest + 1)), at);
        fault(text.replace("N", "999"), at);
        fault(text.substring(0, at), at);
        fault(text.replace("N", "-1"), at);
        if (lowest > 0) {
            fault(text.replace("N", "" + (lowest - 1)), at);
        }
    }

    private static void mostBytes() {
        DUE.says("THE TAPE is a row of bytes, 60 at most.");
        PermitRoom room = new PermitRoom();
        for (int i = 1; i <= 60; i++) {
            DUE.is("feed: byte " + i, room.feed(32, 1), i);
        }
        DUE.is("feed: byte 61", room.feed(32, 1), PermitRoom.FULL);
        DUE.is("many: bytes", room.many(8), 60);
        DUE.is("rule: 60 blanks", room.rule(), PermitRoom.FAULT - 60);
        DUE.is("rule: 60 bytes", Due.rule(room, " ".repeat(50) + "double gas"), 0);
        DUE.is("rule: 60 bytes, blanks behind", Due.rule(room, "double gas" + " ".repeat(50)), 1);
    }

    private static void words() {
        DUE.says("WORDS (letters a to z, as many as stand together)");
        good("watch hot 1");
        fault("watchhot 1", 0);
        fault("watch hota 1", 6);
        fault("watch hotz 1", 6);
        fault("watch ho 1", 6);
        fault("watch hot` 1", 9);
        fault("watch hot{ 1", 9);
        fault("watch hoT 1", 6);
        fault("watch Hot 1", 6);
        fault("w atch hot 1", 0);
        fault("z", 0);
        fault("a", 0);
    }

    private static void numbers() {
        DUE.says("NUMBERS (digits likewise, 1 to 3)");
        good("men hot 1");
        good("men hot 01");
        good("men hot 001");
        fault("men hot 0001", 8);
        fault("men hot 0000000001", 8);
        fault("men hot ", 8);
        fault("men hot 1 2", 10);
        fault("men hot 1/", 9);
        fault("men hot 1:", 9);
        fault("men hot /", 8);
        fault("men hot :", 8);
        good("hours hot 09 to 9");
        PermitRoom room = new PermitRoom();
        Due.rule(room, "need hot test 019");
        DUE.is("ruleOf: 019 is 19", room.ruleOf(0, 2), 19);
    }

    private static void blanks() {
        DUE.says("parted by blanks (32; elsewhere as one likes)");
        good("men hot 1");
        good(" men hot 1");
        good("men hot 1 ");
        good("   men   hot   1   ");
        fault("men hot1", 7);
        fault("menhot 1", 0);
        fault("hours hot 1to 2", 11);
        fault("hours hot 1 to2", 14);
        fault("men\0hot 1", 3);
        fault("men\thot 1", 3);
        fault("men!hot 1", 3);
        fault("men\u001fhot 1", 3);
        fault("men\u00a0hot 1", 3);
        fault("men\u00a0 hot 1", 3);
        fault("men hot 1\n", 9);
    }

    private static void need() {
        DUE.says("need SORT test N (1 to 48)");
        numberFromTo("need cold test N", 1, 48);
        numberFromTo("need vessel test N", 1, 48);
    }

    private static void bar() {
        DUE.says("bar SORT SORT within N (0 to 9)");
        numberFromTo("bar cold vessel within N", 0, 9);
        numberFromTo("bar hot hot within N", 0, 9);
    }

    private static void doubled() {
        DUE.says("double HAZARD");
        good("double gas");
        good("double steam");
        good("double power");
        fault("double cold", 7);
        fault("double", 6);
        fault("double gas gas", 11);
        fault("double gas 2", 11);
    }

    private static void men() {
        DUE.says("men SORT N (1 to 12)");
        numberFromTo("men cold N", 1, 12);
        numberFromTo("men hot N", 1, 12);
    }

    private static void hours() {
        DUE.says("hours SORT N to N (0 to 23, both)");
        numberFromTo("hours hot N to 5", 0, 23);
        numberFromTo("hours vessel 5 to N", 0, 23);
        good("hours hot 23 to 0");
        good("hours hot 7 to 7");
    }

    private static void watch() {
        DUE.says("watch SORT N (1 to 24)");
        numberFromTo("watch vessel N", 1, 24);
        numberFromTo("watch cold N", 1, 24);
    }

    private static void sorts() {
        DUE.says("SORT: cold | hot | vessel (0, 1, 2).");
        String[] names = {"cold", "hot", "vessel"};
        for (int sort = 0; sort < 3; sort++) {
            PermitRoom room = new PermitRoom();
            Due.rule(room, "watch " + names[sort] + " 1");
            Due.rule(room, "bar hot " + names[sort] + " within 1");
            DUE.is("ruleOf: " + names[sort], room.ruleOf(0, 1), sort);
            DUE.is("ruleOf: the second, " + names[sort], room.ruleOf(1, 2), sort);
        }
        fault("watch gas 1", 6);
        fault("watch vesse 1", 6);
        fault("watch vessels 1", 6);
        fault("bar hot gas within 1", 8);
    }

    private static void hazards() {
        DUE.says("HAZARD: gas | steam | power.");
        String[] names = {"gas", "steam", "power"};
        for (int hazard = 0; hazard < 3; hazard++) {
            PermitRoom room = new PermitRoom();
            Due.rule(room, "double " + names[hazard]);
            DUE.is("ruleOf: " + names[hazard], room.ruleOf(0, 1), hazard);
        }
        fault("double ga", 7);
        fault("double gass", 7);
        fault("double vessel", 7);
    }

    private static void firstThatCantStand() {
        DUE.says("the first byte of the first WORD, NUMBER or other byte that can't stand there");
        fault("hot", 0);
        fault("   hot", 3);
        fault("1", 0);
        fault("?", 0);
        fault("\u00ff", 0);
        fault("\u00e8ours hot 1 to 2", 0);
        fault("hours gas x to 2", 6);
        fault("hours hot to 2", 10);
        fault("hours hot 1 ? 2", 12);
        fault("hours hot 1 to ?", 15);
        fault("hours hot 1 to 2 hot", 17);
        fault("hours hot 1 to 2 ?", 17);
        fault("hours hot 1 to 2?", 16);
        fault("bar hot hot hot 1", 12);
        fault("need need hot 1", 5);
    }

    private static void numberNotAsTold() {
        DUE.says("(a NUMBER that isn't as told, too)");
        fault("hours hot 24 to 24", 10);
        fault("hours hot 0024 to 1", 10);
        fault("hours hot 1 to 24 x", 15);
        fault("need hot test 49 49", 14);
        fault("bar hot hot within  10", 20);
    }

    private static void moreMustCome() {
        DUE.says("or how many bytes there are, if more must come");
        String[] texts = {"need hot test 1", "bar hot hot within 1", "double gas", "men hot 1", "hours hot 1 to 2", "watch hot 1"};
        for (String text : texts) {
            for (int end = 0; end < text.length(); end++) {
                boolean isBetween = end == 0 || text.charAt(end - 1) == ' ' || text.charAt(end) == ' ';
                if (isBetween) {
                    fault(text.substring(0, end), end);
                    fault(text.substring(0, end) + "   ", end + 3);
                }
            }
            good(text);
        }
    }

    private static void mostRules() {
        DUE.says("RULES are numbered from 0 as they come, 12 at most");
        PermitRoom room = new PermitRoom();
        for (int r = 0; r < 12; r++) {
            DUE.is("rule " + r, Due.rule(room, "men hot " + (r + 1)), r);
        }
        DUE.is("rule: a 13th", Due.rule(room, "men hot 1"), PermitRoom.FULL);
        DUE.is("many(2)", room.many(2), 12);
        DUE.is("ruleOf: the first", room.ruleOf(0, 2), 1);
        DUE.is("ruleOf: the last", room.ruleOf(11, 2), 12);
        DUE.is("ruleOf: none behind it", room.ruleOf(12, 2), PermitRoom.NUMBER);
    }

    /** A valve is enough till the rule comes: so right() tells in which hours the rule was in force. */
    private static PermitRoom doubledFromFiveToEight() {
        PermitRoom room = Due.roomOfValves(1);
        room.source(0, 0, true);
        Due.live(room, 1, 0, 1, 0);
        room.go(5);
        Due.rule(room, "double gas");
        room.go(3);
        room.strike(0);
        room.go(2);
        return room;
    }

    private static void inForceFrom() {
        DUE.says("each is IN FORCE from the HOUR at which it was told");
        PermitRoom room = doubledFromFiveToEight();
        DUE.is("right: an hour ahead", room.right(0, 4, 10), 1);
        DUE.is("right: in that hour", room.right(0, 5, 10), 0);
        DUE.is("right: an hour later", room.right(0, 6, 10), 0);
        PermitRoom atOnce = new PermitRoom();
        Due.rule(atOnce, "double gas");
        DUE.is("ruleOf: at once", atOnce.ruleOf(0, 4), 1);
    }

    private static void inForceUntil() {
        DUE.says("until that at which it was STRUCK (without it)");
        PermitRoom room = doubledFromFiveToEight();
        DUE.is("right: an hour ahead", room.right(0, 7, 10), 0);
        DUE.is("right: in that hour", room.right(0, 8, 10), 1);
        DUE.is("right: an hour later", room.right(0, 9, 10), 1);
        DUE.is("right: now", room.right(0, 10, 10), 1);
        PermitRoom atOnce = new PermitRoom();
        Due.rule(atOnce, "double gas");
        atOnce.strike(0);
        DUE.is("ruleOf: struck in the hour at which it was told", atOnce.ruleOf(0, 4), 0);
    }
}
