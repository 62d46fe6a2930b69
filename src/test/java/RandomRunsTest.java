import java.util.Random;

/** Long runs of random calls on a room and on the plain model: all answers must be the same. */
public final class RandomRunsTest {
    private static final int RUNS = 1000;
    private static final int CALLS = 512;
    private static final String[] WORDS = {
        "need", "bar", "double", "men", "hours", "watch", "cold", "hot", "vessel", "gas", "steam", "power", "test",
        "within", "to", "0", "1", "2", "9", "10", "12", "23", "24", "48", "049", "0001", "x", "-", "\u00ff",
    };

    /** Some runs leave permits asked, so that orders are long; some keep them live. */
    private enum Mood { ANY, ORDERING, LIVELY }

    private final Random random;
    private final PermitRoom room = new PermitRoom();
    private final Model model = new Model();
    private final int mostPipes;
    private final int wildness;
    private final Mood mood;
    private String call = "";

    private RandomRunsTest(long seed) {
        random = new Random(seed);
        mostPipes = random.nextInt(6) == 0 ? 12 : 3 + random.nextInt(5);
        wildness = random.nextInt(3) == 0 ? 12 : 60;
        mood = Mood.values()[random.nextInt(3)];
    }

    public static void main(String[] args) {
        int wrong = 0;
        for (int seed = 0; seed < RUNS && wrong < 10; seed++) {
            wrong += new RandomRunsTest(seed).run(seed) ? 0 : 1;
        }
        System.out.println(RUNS + " random runs of " + CALLS + " calls, wrong ones: " + wrong);
        if (wrong != 0) {
            System.exit(1);
        }
    }

    private boolean run(int seed) {
        for (int i = 0; i < CALLS; i++) {
            int[] answers = i < 12 ? firstCalls() : anyCall();
            if (answers[0] != answers[1]) {
                System.out.println("run " + seed + ", call " + i + ": " + call + " answered " + answers[0]
                    + ", due is " + answers[1]);
                return false;
            }
        }
        return true;
    }

    private int[] firstCalls() {
        return random.nextInt(4) == 0 ? callSource() : callPipe();
    }

    /** Mostly a number from 0 on below the bound, now and then one that is none. */
    private int below(int bound) {
        if (random.nextInt(wildness) == 0) {
            int[] wild = {-1, -2, bound, bound + 1, Integer.MAX_VALUE, Integer.MIN_VALUE, 31, 32, 64};
            return wild[random.nextInt(wild.length)];
        }
        return random.nextInt(Math.max(1, bound));
    }

    private int permit() {
        return below(Math.max(1, model.many(3)));
    }

    private int[] told(String text, int got, int want) {
        call = text;
        return new int[] {got, want};
    }

    private int[] callPipe() {
        if (model.many(1) >= mostPipes && random.nextInt(20) != 0) {
            return callSource();
        }
        if (model.many(1) >= mostPipes && mostPipes < 12) {
            return told("pipe(1, 1, 0)", room.pipe(1, 1, 0), model.pipe(1, 1, 0));
        }
        int places = 3 + mostPipes / 2;
        int a = below(places);
        int b = below(places);
        int fitting = below(random.nextInt(3) == 0 ? 3 : 2);
        return told("pipe(" + a + ", " + b + ", " + fitting + ")", room.pipe(a, b, fitting), model.pipe(a, b, fitting));
    }

    private int[] callSource() {
        int place = below(10);
        int hazard = below(3);
        boolean is = random.nextInt(3) == 0;
        return told("source(" + place + ", " + hazard + ", " + is + ")", room.source(place, hazard, is),
            model.source(place, hazard, is));
    }

    private int[] anyCall() {
        int kind = random.nextInt(100);
        if (mood == Mood.ORDERING && random.nextInt(12) == 0) {
            return orderCall(0);
        }
        if (mood == Mood.LIVELY && random.nextInt(5) == 0) {
            return livelyCall();
        }
        if (kind < 22) {
            return netCall(kind);
        }
        if (kind < 36) {
            return ruleCall();
        }
        if (kind < 66) {
            return permitCall(kind - 36);
        }
        if (kind < 78) {
            return menCall(kind - 66);
        }
        if (kind < 85) {
            return setCall(kind - 78);
        }
        return orderCall(kind - 85);
    }

    /** Brings some permit one step nearer to being live, or looks at those that are. */
    private int[] livelyCall() {
        int w = permit();
        int man = random.nextInt(8);
        switch (model.permitOf(w, 3)) {
            case 0:
                return told("isolate(" + w + ")", room.isolate(w), model.isolate(w));
            case 1, 2, 4:
                return model.permitOf(w, 4) < 0 ? told("hold(" + w + ", " + man + ")", room.hold(w, man), model.hold(w, man))
                    : told("start(" + w + ")", room.start(w), model.start(w));
            case 3:
                return random.nextBoolean() ? told("quarrels(" + w + ")", room.quarrels(w), model.quarrels(w))
                    : setCall(6);
            default:
                return told("may(" + w + ", 2)", room.may(w, 2), model.may(w, 2));
        }
    }

    private int[] netCall(int kind) {
        int a = below(10);
        int b = below(10);
        int pipe = below(Math.max(1, model.many(1)));
        boolean yes = random.nextBoolean();
        switch (kind) {
            case 0, 1:
                return callPipe();
            case 2, 3:
                return callSource();
            case 4, 5, 6, 7:
                return told("turn(" + pipe + ", " + yes + ")", room.turn(pipe, yes), model.turn(pipe, yes));
            case 8, 9, 10:
                return told("safe(" + a + ")", room.safe(a), model.safe(a));
            case 11, 12:
                return told("barriers(" + a + ", " + b + ")", room.barriers(a, b), model.barriers(a, b));
            case 13:
                return told("apart(" + a + ", " + b + ")", room.apart(a, b), model.apart(a, b));
            case 14, 15, 16:
                int what = below(6);
                return told("of(" + pipe + ", " + what + ")", room.of(pipe, what), model.of(pipe, what));
            case 17:
                int far = below(49);
                return told("go(" + far + ")", room.go(far), model.go(far));
            default:
                int n = 1 + random.nextInt(3);
                return told("go(" + n + ")", room.go(n), model.go(n));
        }
    }

    private int[] ruleCall() {
        int rule = below(Math.max(1, model.many(2)));
        int what = below(5);
        switch (random.nextInt(12)) {
            case 0, 1:
                return told("strike(" + rule + ")", room.strike(rule), model.strike(rule));
            case 2, 3, 4:
                return told("ruleOf(" + rule + ", " + what + ")", room.ruleOf(rule, what), model.ruleOf(rule, what));
            case 5:
                return told("rule()", room.rule(), model.rule());
            case 6:
                long w = random.nextLong();
                int n = below(9);
                return told("feed(" + w + ", " + n + ")", room.feed(w, n), model.feed(w, n));
            default:
                return tellText(text());
        }
    }

    private int[] tellText(String text) {
        for (int from = 0; from < text.length(); from += 8) {
            int n = Math.min(8, text.length() - from);
            long w = 0;
            for (int i = 0; i < n; i++) {
                w |= (text.charAt(from + i) & 255L) << 8 * i;
            }
            if (room.feed(w, n) != model.feed(w, n)) {
                return told("feed of " + text, 0, 1);
            }
        }
        return told("rule() of '" + text + "'", room.rule(), model.rule());
    }

    private String text() {
        StringBuilder text = new StringBuilder(goodText());
        int slips = random.nextInt(3) == 0 ? 1 + random.nextInt(2) : 0;
        for (int i = 0; i < slips; i++) {
            int at = random.nextInt(text.length() + 1);
            switch (random.nextInt(5)) {
                case 0 -> text.insert(at, WORDS[random.nextInt(WORDS.length)]);
                case 1 -> text.insert(at, ' ');
                case 2 -> text.setLength(at);
                case 3 -> text.append(' ').append(WORDS[random.nextInt(WORDS.length)]);
                default -> {
                    if (at < text.length()) {
                        text.deleteCharAt(at);
                    }
                }
            }
        }
        return text.toString();
    }

    private String goodText() {
        String sort = WORDS[6 + random.nextInt(3)];
        switch (random.nextInt(6)) {
            case 0:
                return "need " + sort + " test " + random.nextInt(random.nextBoolean() ? 6 : 50);
            case 1:
                return "bar " + sort + " " + WORDS[6 + random.nextInt(3)] + " within " + random.nextInt(11);
            case 2:
                return "double " + WORDS[9 + random.nextInt(3)];
            case 3:
                return "men " + sort + "  " + random.nextInt(14);
            case 4:
                return "hours " + sort + " " + random.nextInt(25) + " to " + random.nextInt(25);
            default:
                return " watch " + sort + " " + random.nextInt(26);
        }
    }

    private int[] permitCall(int wish) {
        int w = permit();
        boolean isKept = mood == Mood.ORDERING && wish >= 8 && wish <= 10 || mood == Mood.LIVELY && wish == 22;
        int kind = isKept && random.nextInt(10) != 0 ? 28 : wish;
        switch (kind) {
            case 0, 1, 2:
                int place = below(10);
                int sort = below(3);
                int set = below(1 << Math.max(0, model.many(1)));
                return told("ask(" + place + ", " + sort + ", " + set + ")", room.ask(place, sort, set),
                    model.ask(place, sort, set));
            case 3, 4, 5, 6, 7:
                int man = random.nextInt(20) - 2;
                man = man > 8 ? random.nextInt(8) : man;
                return told("hold(" + w + ", " + man + ")", room.hold(w, man), model.hold(w, man));
            case 8, 9, 10:
                return told("isolate(" + w + ")", room.isolate(w), model.isolate(w));
            case 11, 12, 13, 14:
                int v = random.nextInt(3) == 0 ? below(101) : 8 + random.nextInt(4);
                return told("test(" + w + ", " + v + ")", room.test(w, v), model.test(w, v));
            case 15, 16, 17, 18, 19:
                return told("start(" + w + ")", room.start(w), model.start(w));
            case 20, 21:
                return told("hang(" + w + ")", room.hang(w), model.hang(w));
            case 22:
                return told("back(" + w + ")", room.back(w), model.back(w));
            case 23, 24, 25:
                int act = below(6);
                return told("may(" + w + ", " + act + ")", room.may(w, act), model.may(w, act));
            case 26:
                return told("quarrels(" + w + ")", room.quarrels(w), model.quarrels(w));
            default:
                int what = below(9);
                return told("permitOf(" + w + ", " + what + ")", room.permitOf(w, what), model.permitOf(w, what));
        }
    }

    private int[] menCall(int kind) {
        int man = below(8);
        int w = permit();
        boolean on = random.nextInt(3) != 0;
        switch (kind) {
            case 0, 1, 2, 3, 4, 5:
                return told("enter(" + man + ", " + w + ")", room.enter(man, w), model.enter(man, w));
            case 6, 7, 8:
                return told("leave(" + man + ")", room.leave(man), model.leave(man));
            case 9, 10:
                return told("shift(" + man + ", " + on + ")", room.shift(man, on), model.shift(man, on));
            default:
                return random.nextInt(3) == 0 ? told("siren()", room.siren(), model.siren())
                    : told("leave(" + man + ")", room.leave(man), model.leave(man));
        }
    }

    private int[] setCall(int kind) {
        int place = below(10);
        int pipe = below(Math.max(1, model.many(1)));
        boolean isDear = model.many(1) > 7 && random.nextInt(8) != 0;
        if (kind < 2 && !isDear) {
            return kind == 0 ? told("least(" + place + ")", room.least(place), model.least(place))
                : told("leastSet(" + place + ")", room.leastSet(place), model.leastSet(place));
        }
        if (kind < 4) {
            return told("risk(" + pipe + ")", room.risk(pipe), model.risk(pipe));
        }
        int w = permit();
        int hour = below(model.many(0) + 1);
        int known = below(model.many(0) + 1);
        return told("right(" + w + ", " + hour + ", " + known + ")", room.right(w, hour, known),
            model.right(w, hour, known));
    }

    private int[] orderCall(int kind) {
        int i = below(Math.max(1, model.many(9)));
        int what = below(3);
        int v = below(12);
        switch (kind) {
            case 0:
                return told("order()", room.order(), model.order());
            case 1, 2:
                return told("ordered(" + v + ")", room.ordered(v), model.ordered(v));
            case 3, 4, 5:
                return told("row(" + i + ", " + what + ")", room.row(i, what), model.row(i, what));
            case 6:
                return told("alter(" + i + ", " + what + ", " + v + ")", room.alter(i, what, v), model.alter(i, what, v));
            case 7:
                return random.nextInt(4) == 0 ? told("drop()", room.drop(), model.drop())
                    : told("check()", room.check(), model.check());
            case 8, 9:
                return told("check()", room.check(), model.check());
            default:
                return told("many(" + v + ")", room.many(v), model.many(v));
        }
    }
}
