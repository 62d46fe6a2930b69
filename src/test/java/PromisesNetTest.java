import java.io.IOException;

/** Promises 1 to 13, a new object, the net and rules: each sentence that names an edge has answers of its own. */
public final class PromisesNetTest {
    private static final Due DUE = new Due();
    private static final int[] NO_PLACES = {-1, 10, Integer.MIN_VALUE, Integer.MAX_VALUE, -10, 32};

    public static void main(String[] args) throws IOException {
        newObject();
        pipe();
        of();
        source();
        turn();
        safe();
        barriers();
        apart();
        go();
        feed();
        rule();
        strike();
        ruleOf();
        DUE.quotedFrom(args);
        DUE.end();
    }

    private static void newObject() {
        DUE.says("HOUR 0; no PIPES, SOURCES, RULES, PERMITS; THE TAPE, THE ROWS are empty");
        PermitRoom room = new PermitRoom();
        int[] due = {0, 0, 0, 0, 0, 0, 0, 8, 0, 0, 0};
        for (int what = 0; what < due.length; what++) {
            DUE.is("many(" + what + ")", room.many(what), due[what]);
        }
        for (int place = 0; place < 10; place++) {
            DUE.is("safe: no sources", room.safe(place), 1);
        }
        DUE.is("rule: an empty tape", room.rule(), PermitRoom.FAULT);
        DUE.is("row: no rows", room.row(0, 0), PermitRoom.NONE);
        DUE.says("no ORDER was told.");
        DUE.is("check", room.check(), PermitRoom.NONE);
        DUE.is("ordered", room.ordered(0), PermitRoom.NONE);
    }

    private static void pipe() {
        DUE.says("A PIPE comes: its number.");
        PermitRoom room = new PermitRoom();
        DUE.is("pipe: the first", room.pipe(0, 9, 0), 0);
        DUE.is("pipe: the second", room.pipe(9, 0, 2), 1);
        DUE.says("NUMBER: there is no such PLACE (either), they are the same, or fitting isn't 0 to 2");
        for (int wrong : NO_PLACES) {
            DUE.is("pipe: from " + wrong, room.pipe(wrong, 0, 0), PermitRoom.NUMBER);
            DUE.is("pipe: to " + wrong, room.pipe(0, wrong, 0), PermitRoom.NUMBER);
            DUE.is("pipe: both", room.pipe(wrong, wrong, 0), PermitRoom.NUMBER);
        }
        DUE.is("pipe: the same, 0", room.pipe(0, 0, 0), PermitRoom.NUMBER);
        DUE.is("pipe: the same, 9", room.pipe(9, 9, 0), PermitRoom.NUMBER);
        for (int fitting : new int[] {-1, 3, Integer.MIN_VALUE, Integer.MAX_VALUE}) {
            DUE.is("pipe: fitting " + fitting, room.pipe(0, 1, fitting), PermitRoom.NUMBER);
        }
        DUE.is("many: none came", room.many(1), 2);
        DUE.says("or fitting isn't 0 to 2; FULL.");
        for (int i = 2; i < 12; i++) {
            DUE.is("pipe " + i, room.pipe(0, 1, i % 3), i);
        }
        DUE.is("pipe: full", room.pipe(0, 1, 0), PermitRoom.FULL);
    }

    private static void of() {
        DUE.says("Of a PIPE: what = 0, 1 its PLACES, 2 its FITTING");
        PermitRoom first = new PermitRoom();
        first.pipe(9, 0, 2);
        first.pipe(0, 9, 1);
        int[][] parts = {{9, 0, 2}, {0, 9, 1}};
        for (int what = 0; what < 3; what++) {
            DUE.is("of(0, " + what + ")", first.of(0, what), parts[0][what]);
            DUE.is("of(1, " + what + ")", first.of(1, what), parts[1][what]);
        }
        DUE.says("3 from which HOUR on it is KNOWN, 4 1 if it is CLOSED, else 0, 5 how many LOCKS it has");
        PermitRoom room = new PermitRoom();
        room.pipe(9, 0, 0);
        Due.goTo(room, 300);
        room.pipe(0, 1, 1);
        DUE.is("of: known from hour 0", room.of(0, 3), 0);
        DUE.is("of: known from hour 300", room.of(1, 3), 300);
        for (int w = 0; w < 7; w++) {
            DUE.is("of: closed", room.of(1, 4), w == 0 ? 0 : 1);
            DUE.is("of: locks", room.of(1, 5), w);
            room.isolate(room.ask(0, 0, 2));
        }
        DUE.is("of: seven locks", room.of(1, 5), 7);
        for (int w = 0; w < 7; w++) {
            DUE.is("of: still closed", room.of(1, 4), 1);
            room.back(w);
        }
        DUE.is("of: open as the last one is off", room.of(1, 4), 0);
        DUE.is("of: no locks", room.of(1, 5), 0);
        DUE.says("NUMBER: there is none such, what.");
        for (int wrong : new int[] {-1, 2, 12, 31, 32, Integer.MIN_VALUE, Integer.MAX_VALUE}) {
            DUE.is("of: pipe " + wrong, room.of(wrong, 0), PermitRoom.NUMBER);
        }
        for (int wrong : new int[] {-1, 6, Integer.MIN_VALUE, Integer.MAX_VALUE}) {
            DUE.is("of: what " + wrong, room.of(0, wrong), PermitRoom.NUMBER);
        }
        DUE.is("of: both are wrong", room.of(2, 6), PermitRoom.NUMBER);
    }

    private static void source() {
        DUE.says("A PLACE is a SOURCE of a HAZARD, or not: 1 if that is new, else 0.");
        PermitRoom room = new PermitRoom();
        for (int place = 0; place < 10; place += 9) {
            for (int hazard = 0; hazard < 3; hazard++) {
                DUE.is("source: isn't, not new", room.source(place, hazard, false), 0);
                DUE.is("source: is, new", room.source(place, hazard, true), 1);
                DUE.is("source: is, not new", room.source(place, hazard, true), 0);
                DUE.is("source: isn't, new", room.source(place, hazard, false), 1);
                room.source(place, hazard, true);
            }
        }
        DUE.says("NUMBER: there is no such PLACE, HAZARD.");
        for (int wrong : NO_PLACES) {
            DUE.is("source: place " + wrong, room.source(wrong, 0, true), PermitRoom.NUMBER);
        }
        for (int wrong : new int[] {-1, 3, Integer.MIN_VALUE, Integer.MAX_VALUE}) {
            DUE.is("source: hazard " + wrong, room.source(0, wrong, true), PermitRoom.NUMBER);
            DUE.is("source: hazard " + wrong + ", not", room.source(0, wrong, false), PermitRoom.NUMBER);
        }
    }

    private static void turn() {
        DUE.says("A FITTING is CLOSED by hand, or not any more: 1 if that is new, else 0.");
        PermitRoom room = Due.roomOfValves(12);
        for (int pipe = 0; pipe < 12; pipe += 11) {
            DUE.is("turn: open, not new", room.turn(pipe, false), 0);
            DUE.is("turn: closed, new", room.turn(pipe, true), 1);
            DUE.is("turn: closed, not new", room.turn(pipe, true), 0);
            DUE.is("turn: open, new", room.turn(pipe, false), 1);
        }
        room.isolate(room.ask(0, 0, 1));
        DUE.is("turn: by hand is new, though locked", room.turn(0, true), 1);
        DUE.is("turn: by hand isn't new", room.turn(0, true), 0);
        DUE.says("NUMBER: there is no such PIPE, or its FITTING is 2");
        PermitRoom few = new PermitRoom();
        few.pipe(0, 1, 2);
        for (int wrong : new int[] {0, 1, -1, 12, 32, Integer.MIN_VALUE, Integer.MAX_VALUE}) {
            DUE.is("turn: " + wrong, few.turn(wrong, true), PermitRoom.NUMBER);
            DUE.is("turn: open " + wrong, few.turn(wrong, false), PermitRoom.NUMBER);
        }
        DUE.says("LOCKED: to open one that has a LOCK.");
        DUE.is("turn: locked, and by hand", room.turn(0, false), PermitRoom.LOCKED);
        DUE.is("turn: another one isn't locked", room.turn(1, false), 0);
        room.isolate(room.ask(0, 0, 1));
        room.back(0);
        DUE.is("turn: one lock is left", room.turn(0, false), PermitRoom.LOCKED);
        room.back(1);
        DUE.is("turn: the last one is off", room.turn(0, false), 1);
        room.isolate(room.ask(0, 0, 2));
        DUE.is("turn: locked, not by hand", room.turn(1, false), PermitRoom.LOCKED);
    }

    private static void safe() {
        DUE.says("Whether a PLACE is SAFE NOW: 1, 0. NUMBER: there is none such.");
        PermitRoom room = Due.roomOfValves(9);
        room.source(9, 0, true);
        DUE.is("safe: nine open pipes away", room.safe(0), 0);
        for (int pipe = 0; pipe < 9; pipe++) {
            room.turn(pipe, true);
            DUE.is("safe: pipe " + pipe + " is closed", room.safe(0), 1);
            room.turn(pipe, false);
        }
        for (int wrong : NO_PLACES) {
            DUE.is("safe(" + wrong + ")", room.safe(wrong), PermitRoom.NUMBER);
        }
    }

    private static void barriers() {
        DUE.says("The fewest BARRIERS of a row of PIPES between two PLACES NOW (0 of one and itself).");
        PermitRoom room = new PermitRoom();
        for (int i = 0; i < 9; i++) {
            room.pipe(i, i + 1, 1);
            room.turn(i, true);
        }
        for (int place = 0; place < 10; place++) {
            DUE.is("barriers: itself", room.barriers(place, place), 0);
            DUE.is("barriers: from 0 to " + place, room.barriers(0, place), 2 * place);
            DUE.is("barriers: from " + place + " to 0", room.barriers(place, 0), 2 * place);
        }
        room.pipe(0, 9, 0);
        room.turn(9, true);
        DUE.is("barriers: a shorter way", room.barriers(0, 8), 3);
        DUE.says("NUMBER: there is no such PLACE (either); NONE: there is no such row.");
        for (int wrong : NO_PLACES) {
            DUE.is("barriers(" + wrong + ", 0)", room.barriers(wrong, 0), PermitRoom.NUMBER);
            DUE.is("barriers(0, " + wrong + ")", room.barriers(0, wrong), PermitRoom.NUMBER);
            DUE.is("barriers, both", room.barriers(wrong, wrong), PermitRoom.NUMBER);
        }
        PermitRoom few = Due.roomOfValves(1);
        DUE.is("barriers: no pipes", new PermitRoom().barriers(0, 1), PermitRoom.NONE);
        DUE.is("barriers: no row", few.barriers(1, 2), PermitRoom.NONE);
    }

    private static void apart() {
        DUE.says("How many PIPES two PLACES are apart (0 of one and itself).");
        PermitRoom room = Due.roomOfValves(9);
        for (int place = 0; place < 10; place++) {
            DUE.is("apart: itself", room.apart(place, place), 0);
            DUE.is("apart: from 0 to " + place, room.apart(0, place), place);
            DUE.is("apart: from " + place + " to 0", room.apart(place, 0), place);
        }
        room.pipe(0, 9, 2);
        DUE.is("apart: a shorter way", room.apart(0, 8), 2);
        DUE.says("NUMBER, NONE likewise.");
        for (int wrong : NO_PLACES) {
            DUE.is("apart(" + wrong + ", 0)", room.apart(wrong, 0), PermitRoom.NUMBER);
            DUE.is("apart(0, " + wrong + ")", room.apart(0, wrong), PermitRoom.NUMBER);
            DUE.is("apart, both", room.apart(wrong, wrong), PermitRoom.NUMBER);
        }
        DUE.is("apart: no pipes", new PermitRoom().apart(0, 1), PermitRoom.NONE);
        DUE.is("apart: no row", Due.roomOfValves(1).apart(1, 2), PermitRoom.NONE);
    }

    private static void go() {
        DUE.says("n HOURS (1 to 48) go by: NOW.");
        PermitRoom room = new PermitRoom();
        DUE.is("go(1)", room.go(1), 1);
        DUE.is("go(48)", room.go(48), 49);
        DUE.says("NUMBER: n isn't as told, or NOW would be above 300.");
        for (int wrong : new int[] {0, 49, -1, -48, Integer.MIN_VALUE, Integer.MAX_VALUE, Integer.MAX_VALUE - 48}) {
            DUE.is("go(" + wrong + ")", room.go(wrong), PermitRoom.NUMBER);
        }
        DUE.is("many: as it was", room.many(0), 49);
        Due.goTo(room, 252);
        DUE.is("go: to 300 at once", room.go(48), 300);
        PermitRoom other = new PermitRoom();
        Due.goTo(other, 253);
        DUE.is("go: to 301", other.go(48), PermitRoom.NUMBER);
        DUE.is("many: as it was", other.many(0), 253);
        DUE.is("go: to 300", other.go(47), 300);
    }

    private static void feed() {
        DUE.says("The n lowest bytes of w, the lowest first, come to THE TAPE: how many it has.");
        PermitRoom room = new PermitRoom();
        DUE.is("feed: four of eight", room.feed(0x7878_7878_656c_6275L << 16 | 0x6f64, 4), 4);
        DUE.is("feed: three more", room.feed(0x20_656cL, 3), 7);
        DUE.is("feed: one of eight", room.feed(0x8080_8080_8080_8067L, 1), 8);
        DUE.is("feed: two more", room.feed(0x7361, 2), 10);
        DUE.is("rule: double gas", room.rule(), 0);
        DUE.is("feed: eight at once", room.feed(0x6720_656c_6275_6f64L, 8), 8);
        DUE.is("feed: two more", room.feed(0xffff_ffff_ffff_7361L, 2), 10);
        DUE.is("rule: double gas again", room.rule(), 1);
        DUE.is("feed: the highest byte is 255", room.feed(0xff20_2020_2020_2020L, 8), 8);
        DUE.is("rule: no letter at 7", room.rule(), PermitRoom.FAULT - 7);
        DUE.says("NUMBER: n isn't 1 to 8; FULL.");
        for (int wrong : new int[] {0, 9, -1, Integer.MIN_VALUE, Integer.MAX_VALUE}) {
            DUE.is("feed: n = " + wrong, room.feed(0, wrong), PermitRoom.NUMBER);
        }
        Due.feed(room, " ".repeat(53));
        DUE.is("feed: 61", room.feed(0x2020_2020_2020_2020L, 8), PermitRoom.FULL);
        DUE.is("feed: none of the eight came", room.many(8), 53);
        DUE.is("feed: 60", room.feed(0x20_2020_2020_2020L, 7), 60);
        DUE.is("feed: full", room.feed(32, 1), PermitRoom.FULL);
    }

    private static void rule() {
        DUE.says("THE TAPE is a RULE (and is empty then, whatever is answered): its number.");
        PermitRoom room = new PermitRoom();
        for (int r = 0; r < 12; r++) {
            DUE.is("rule " + r, Due.rule(room, "double gas"), r);
            DUE.is("many: empty behind a rule", room.many(8), 0);
            DUE.is("rule: behind a rule", Due.rule(room, "x"), PermitRoom.FAULT);
            DUE.is("many: empty behind a fault", room.many(8), 0);
        }
        DUE.is("rule: full", Due.rule(room, "double gas"), PermitRoom.FULL);
        DUE.is("many: empty behind full", room.many(8), 0);
        DUE.says("FAULT less the place; FULL.");
        DUE.is("rule: place 0", new PermitRoom().rule(), -100);
        DUE.is("rule: place 7", Due.rule(new PermitRoom(), "double hot"), -107);
        DUE.is("rule: place 59", Due.rule(new PermitRoom(), " ".repeat(59) + "x"), -159);
        DUE.is("rule: place 60", Due.rule(new PermitRoom(), "double" + " ".repeat(54)), -160);
        DUE.is("rule: a good one in a full book", Due.rule(room, "double gas"), PermitRoom.FULL);
        DUE.is("rule: a fault in a full book", Due.rule(room, "double"), -106);
    }

    private static void strike() {
        DUE.says("A RULE is STRUCK at NOW: 1. NUMBER: there is none such; STATE: it was.");
        PermitRoom room = new PermitRoom();
        DUE.is("strike: no rules", room.strike(0), PermitRoom.NUMBER);
        for (int r = 0; r < 12; r++) {
            Due.rule(room, "double gas");
        }
        for (int wrong : new int[] {-1, 12, Integer.MIN_VALUE, Integer.MAX_VALUE}) {
            DUE.is("strike(" + wrong + ")", room.strike(wrong), PermitRoom.NUMBER);
        }
        DUE.is("strike: the last", room.strike(11), 1);
        DUE.is("strike: again", room.strike(11), PermitRoom.STATE);
        DUE.is("ruleOf: the one ahead is in force", room.ruleOf(10, 4), 1);
        room.go(1);
        DUE.is("strike: the first", room.strike(0), 1);
        DUE.is("strike: again, later", room.strike(11), PermitRoom.STATE);
    }

    private static void ruleOf() {
        String[] texts = {
            "need hot test 48", "bar vessel cold within 9", "double power", "men vessel 12", "hours hot 23 to 0",
            "watch vessel 24",
        };
        int[][] parts = {{0, 1, 48, -3}, {1, 2, 0, 9}, {2, 2, -3, -3}, {3, 2, 12, -3}, {4, 1, 23, 0}, {5, 2, 24, -3}};
        DUE.says("what = 0 its kind (0 need, 1 bar, 2 double, 3 men, 4 hours, 5 watch), 1 its SORT or HAZARD");
        partsOf(texts, parts, 0);
        partsOf(texts, parts, 1);
        DUE.says("2 the second SORT, or the first NUMBER (of bar the second SORT; NONE of double)");
        partsOf(texts, parts, 2);
        DUE.says("3 the last NUMBER (of bar N, of hours the second one; else NONE)");
        partsOf(texts, parts, 3);
        DUE.says("4 1 if it is IN FORCE NOW, else 0");
        PermitRoom room = new PermitRoom();
        room.go(48);
        Due.rule(room, "double gas");
        DUE.is("ruleOf: from now on", room.ruleOf(0, 4), 1);
        room.go(48);
        DUE.is("ruleOf: still", room.ruleOf(0, 4), 1);
        room.strike(0);
        DUE.is("ruleOf: not any more", room.ruleOf(0, 4), 0);
        DUE.is("ruleOf: its kind still", room.ruleOf(0, 0), 2);
        DUE.says("NUMBER: there is none such, what.");
        for (int wrong : new int[] {-1, 1, 12, Integer.MIN_VALUE, Integer.MAX_VALUE}) {
            DUE.is("ruleOf: rule " + wrong, room.ruleOf(wrong, 0), PermitRoom.NUMBER);
        }
        for (int wrong : new int[] {-1, 5, Integer.MIN_VALUE, Integer.MAX_VALUE}) {
            DUE.is("ruleOf: what " + wrong, room.ruleOf(0, wrong), PermitRoom.NUMBER);
        }
    }

    private static void partsOf(String[] texts, int[][] parts, int what) {
        PermitRoom room = new PermitRoom();
        for (int r = 0; r < texts.length; r++) {
            Due.rule(room, texts[r]);
            DUE.is("ruleOf: " + texts[r], room.ruleOf(r, what), parts[r][what]);
        }
    }
}
