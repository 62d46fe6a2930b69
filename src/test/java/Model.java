import java.util.ArrayList;
import java.util.HashMap;
import java.util.List;
import java.util.Map;
import java.util.TreeMap;

/**
 * The document once more, written as slowly and plainly as its words: all rows of pipes, all sets, all orders are
 * gone through. RandomRunsTest holds the class against it.
 */
final class Model {
    private static final int FAR = 1000;

    record Pipe(int a, int b, int fitting, int from) { }

    static final class Rule {
        String kind;
        int subject;
        int second = -3;
        int last = -3;
        int from;
        int struck = FAR;
    }

    static final class Permit {
        int place;
        int sort;
        int set;
        String state = "ASKED";
        Integer holder;
        Integer test;
        Integer testHour;
        Integer liveTill;
    }

    private static final List<String> STATES = List.of("ASKED", "ISOLATED", "TESTED", "LIVE", "HUNG", "BACK");
    private static final List<String> KINDS = List.of("need", "bar", "double", "men", "hours", "watch");
    private static final List<String> SORTS = List.of("cold", "hot", "vessel");
    private static final List<String> HAZARDS = List.of("gas", "steam", "power");

    private int now = 0;
    private final List<Pipe> pipes = new ArrayList<>();
    private final boolean[] byHand = new boolean[12];
    private final boolean[][] isSource = new boolean[10][3];
    private StringBuilder tape = new StringBuilder();
    private final List<Rule> rules = new ArrayList<>();
    private final List<Permit> permits = new ArrayList<>();
    private final boolean[] isOff = new boolean[8];
    private final Map<Integer, Integer> inside = new TreeMap<>();
    private final Map<Integer, Integer> closedThen = new HashMap<>();
    private final Map<Integer, Integer> liveThen = new HashMap<>();
    private List<Integer> told = null;
    private List<List<Integer>> proof = List.of();
    private List<List<Integer>> rows = new ArrayList<>();

    // ---- the net

    private static boolean in(int x, int low, int high) {
        return x >= low && x <= high;
    }

    int pipe(int a, int b, int fitting) {
        if (!in(a, 0, 9) || !in(b, 0, 9) || a == b || !in(fitting, 0, 2)) {
            return -1;
        }
        if (pipes.size() == 12) {
            return -2;
        }
        pipes.add(new Pipe(a, b, fitting, now));
        return pipes.size() - 1;
    }

    private boolean isPipe(int i) {
        return in(i, 0, pipes.size() - 1);
    }

    private boolean hasLock(Permit w) {
        return List.of("ISOLATED", "TESTED", "LIVE", "HUNG").contains(w.state);
    }

    private int locks(int pipe) {
        int n = 0;
        for (Permit w : permits) {
            if (hasLock(w) && (w.set & 1 << pipe) != 0) {
                n++;
            }
        }
        return n;
    }

    private int closed() {
        int set = 0;
        for (int i = 0; i < pipes.size(); i++) {
            if (byHand[i] || locks(i) > 0) {
                set |= 1 << i;
            }
        }
        return set;
    }

    private int live() {
        int set = 0;
        for (int w = 0; w < permits.size(); w++) {
            if (permits.get(w).state.equals("LIVE")) {
                set |= 1 << w;
            }
        }
        return set;
    }

    int of(int pipe, int what) {
        if (!isPipe(pipe) || !in(what, 0, 5)) {
            return -1;
        }
        Pipe p = pipes.get(pipe);
        return new int[] {p.a, p.b, p.fitting, p.from, closed() >> pipe & 1, locks(pipe)}[what];
    }

    int source(int place, int hazard, boolean is) {
        if (!in(place, 0, 9) || !in(hazard, 0, 2)) {
            return -1;
        }
        boolean isNew = isSource[place][hazard] != is;
        isSource[place][hazard] = is;
        return isNew ? 1 : 0;
    }

    int turn(int pipe, boolean shut) {
        if (!isPipe(pipe) || pipes.get(pipe).fitting == 2) {
            return -1;
        }
        if (!shut && locks(pipe) > 0) {
            return -5;
        }
        boolean isNew = byHand[pipe] != shut;
        byHand[pipe] = shut;
        return isNew ? 1 : 0;
    }

    /** By going along all rows of pipes that come to no place twice. */
    private int fewest(int at, int goal, int visited, int closed, int known, boolean countPipes) {
        if (at == goal) {
            return 0;
        }
        int best = FAR;
        for (int i = 0; i < pipes.size(); i++) {
            Pipe p = pipes.get(i);
            if (p.from > known || p.a != at && p.b != at) {
                continue;
            }
            int next = p.a == at ? p.b : p.a;
            if ((visited & 1 << next) != 0) {
                continue;
            }
            int cost = countPipes ? 1 : (closed & 1 << i) == 0 ? 0 : p.fitting == 0 ? 1 : 2;
            best = Math.min(best, cost + fewest(next, goal, visited | 1 << next, closed, known, countPipes));
        }
        return best;
    }

    private boolean isInForce(Rule r, int hour) {
        return hour >= r.from && hour < r.struck;
    }

    private boolean isSafe(int place, int closed, int hourOfRules, int known) {
        for (int s = 0; s < 10; s++) {
            for (int h = 0; h < 3; h++) {
                if (!isSource[s][h]) {
                    continue;
                }
                int due = 1;
                for (Rule r : rules) {
                    if (r.kind.equals("double") && r.subject == h && isInForce(r, hourOfRules)) {
                        due = 2;
                    }
                }
                if (s == place || fewest(place, s, 1 << place, closed, known, false) < due) {
                    return false;
                }
            }
        }
        return true;
    }

    int safe(int place) {
        return !in(place, 0, 9) ? -1 : isSafe(place, closed(), now, now) ? 1 : 0;
    }

    int barriers(int a, int b) {
        if (!in(a, 0, 9) || !in(b, 0, 9)) {
            return -1;
        }
        int n = fewest(a, b, 1 << a, closed(), now, false);
        return n >= FAR ? -3 : n;
    }

    int apart(int a, int b) {
        if (!in(a, 0, 9) || !in(b, 0, 9)) {
            return -1;
        }
        int n = fewest(a, b, 1 << a, 0, now, true);
        return n >= FAR ? -3 : n;
    }

    int go(int n) {
        if (!in(n, 1, 48) || now + n > 300) {
            return -1;
        }
        for (int i = 0; i < n; i++) {
            closedThen.put(now, closed());
            liveThen.put(now, live());
            now++;
        }
        return now;
    }

    // ---- rules

    int feed(long w, int n) {
        if (!in(n, 1, 8)) {
            return -1;
        }
        if (tape.length() + n > 60) {
            return -2;
        }
        for (int i = 0; i < n; i++) {
            tape.append((char) (w & 255));
            w >>= 8;
        }
        return tape.length();
    }

    private static String classOf(char c) {
        return c >= 'a' && c <= 'z' ? "letter" : c >= '0' && c <= '9' ? "digit" : c == ' ' ? "blank" : "other";
    }

    /** Every form that a rule may have, as a row of patterns. */
    private static List<List<String>> forms() {
        String sort = "cold|hot|vessel";
        return List.of(
            List.of("need", sort, "test", "#1-48"),
            List.of("bar", sort, sort, "within", "#0-9"),
            List.of("double", "gas|steam|power"),
            List.of("men", sort, "#1-12"),
            List.of("hours", sort, "#0-23", "to", "#0-23"),
            List.of("watch", sort, "#1-24"));
    }

    private static boolean fits(String piece, String pattern) {
        if (!pattern.startsWith("#")) {
            return List.of(pattern.split("\\|")).contains(piece);
        }
        String[] ends = pattern.substring(1).split("-");
        return piece.matches("[0-9]{1,3}") && in(Integer.parseInt(piece), Integer.parseInt(ends[0]), Integer.parseInt(ends[1]));
    }

    int rule() {
        String text = tape.toString();
        tape = new StringBuilder();
        List<String> pieces = new ArrayList<>();
        List<Integer> places = new ArrayList<>();
        for (int i = 0; i < text.length(); i++) {
            String c = classOf(text.charAt(i));
            boolean goesOn = i > 0 && classOf(text.charAt(i - 1)).equals(c) && !c.equals("other");
            if (c.equals("blank")) {
                continue;
            }
            if (goesOn) {
                pieces.set(pieces.size() - 1, pieces.get(pieces.size() - 1) + text.charAt(i));
            } else {
                pieces.add("" + text.charAt(i));
                places.add(i);
            }
        }
        List<List<String>> open = new ArrayList<>(forms());
        for (int k = 0; k < pieces.size(); k++) {
            List<List<String>> still = new ArrayList<>();
            boolean isParted = places.get(k) == 0 || text.charAt(places.get(k) - 1) == ' ';
            for (List<String> form : open) {
                if (isParted && k < form.size() && fits(pieces.get(k), form.get(k))) {
                    still.add(form);
                }
            }
            if (still.isEmpty()) {
                return -100 - places.get(k);
            }
            open = still;
        }
        if (open.size() > 1 || open.get(0).size() > pieces.size()) {
            return -100 - text.length();
        }
        if (rules.size() == 12) {
            return -2;
        }
        rules.add(ruleOfPieces(pieces));
        return rules.size() - 1;
    }

    private Rule ruleOfPieces(List<String> pieces) {
        Rule r = new Rule();
        r.kind = pieces.get(0);
        r.from = now;
        r.subject = (r.kind.equals("double") ? HAZARDS : SORTS).indexOf(pieces.get(1));
        switch (r.kind) {
            case "need" -> r.second = Integer.parseInt(pieces.get(3));
            case "bar" -> {
                r.second = SORTS.indexOf(pieces.get(2));
                r.last = Integer.parseInt(pieces.get(4));
            }
            case "men", "watch" -> r.second = Integer.parseInt(pieces.get(2));
            case "hours" -> {
                r.second = Integer.parseInt(pieces.get(2));
                r.last = Integer.parseInt(pieces.get(4));
            }
            default -> { }
        }
        return r;
    }

    int strike(int rule) {
        if (!in(rule, 0, rules.size() - 1)) {
            return -1;
        }
        if (rules.get(rule).struck != FAR) {
            return -4;
        }
        rules.get(rule).struck = now;
        return 1;
    }

    int ruleOf(int rule, int what) {
        if (!in(rule, 0, rules.size() - 1) || !in(what, 0, 4)) {
            return -1;
        }
        Rule r = rules.get(rule);
        return new int[] {KINDS.indexOf(r.kind), r.subject, r.second, r.last, isInForce(r, now) ? 1 : 0}[what];
    }

    private List<Rule> rulesFor(String kind, int sort) {
        List<Rule> found = new ArrayList<>();
        for (Rule r : rules) {
            if (r.kind.equals(kind) && r.subject == sort && isInForce(r, now)) {
                found.add(r);
            }
        }
        return found;
    }

    // ---- permits

    private boolean isPermit(int w) {
        return in(w, 0, permits.size() - 1);
    }

    int ask(int place, int sort, int set) {
        if (!in(place, 0, 9) || !in(sort, 0, 2)) {
            return -1;
        }
        for (int i = 0; i < 32; i++) {
            if ((set & 1 << i) != 0 && (!isPipe(i) || pipes.get(i).fitting == 2)) {
                return -1;
            }
        }
        if (permits.size() == 7) {
            return -2;
        }
        Permit w = new Permit();
        w.place = place;
        w.sort = sort;
        w.set = set;
        permits.add(w);
        return permits.size() - 1;
    }

    int hold(int permit, int man) {
        if (!isPermit(permit) || !in(man, -1, 7)) {
            return -9;
        }
        Permit w = permits.get(permit);
        if (w.state.equals("BACK") || w.state.equals("LIVE") && (man == -1 || isOff[man])) {
            return -4;
        }
        int was = w.holder == null ? -1 : w.holder;
        w.holder = man == -1 ? null : Integer.valueOf(man);
        return was;
    }

    private int insideFor(int permit) {
        int n = 0;
        for (int w : inside.values()) {
            n += w == permit ? 1 : 0;
        }
        return n;
    }

    private int quarrel(int permit) {
        Permit w = permits.get(permit);
        for (int o = 0; o < permits.size(); o++) {
            Permit other = permits.get(o);
            if (o == permit || !other.state.equals("LIVE")) {
                continue;
            }
            int apart = fewest(w.place, other.place, 1 << w.place, 0, now, true);
            for (Rule r : rules) {
                boolean isOne = r.subject == w.sort && r.second == other.sort;
                boolean isOther = r.subject == other.sort && r.second == w.sort;
                if (r.kind.equals("bar") && isInForce(r, now) && (isOne || isOther) && apart <= r.last) {
                    return o;
                }
            }
        }
        return -3;
    }

    private boolean bars(int bar, int permit, String act) {
        Permit w = permits.get(permit);
        switch (bar) {
            case 2:
                return !isSafe(w.place, closed(), now, now);
            case 3:
                return rulesFor("need", w.sort).stream()
                    .anyMatch(r -> w.test == null || w.test > 10 || now - w.testHour > r.second);
            case 4:
                return quarrel(permit) != -3;
            case 5:
                return rulesFor("hours", w.sort).stream().anyMatch(r -> !hoursOf(r).contains(now % 24));
            case 6:
                return w.holder == null || isOff[w.holder];
            case 7:
                return act.equals("enter")
                    ? rulesFor("men", w.sort).stream().anyMatch(r -> insideFor(permit) >= r.second)
                    : insideFor(permit) > 0;
            case 8:
                return w.liveTill != null && rulesFor("watch", w.sort).stream().anyMatch(r -> now - w.liveTill < r.second);
            default:
                return false;
        }
    }

    /** Goes around the clock from the one to the other. */
    private static List<Integer> hoursOf(Rule r) {
        List<Integer> hours = new ArrayList<>();
        for (int h = r.second; h != r.last; h = (h + 1) % 24) {
            hours.add(h);
        }
        hours.add(r.last);
        return hours;
    }

    private int firstBar(int permit, String act) {
        Map<String, List<String>> from = Map.of(
            "isolate", List.of("ASKED"),
            "test", List.of("ISOLATED", "TESTED", "LIVE", "HUNG"),
            "start", List.of("ISOLATED", "TESTED", "HUNG"),
            "hang", List.of("LIVE"),
            "back", List.of("ISOLATED", "TESTED", "HUNG"),
            "enter", List.of("LIVE"));
        Map<String, List<Integer>> barsOf = Map.of(
            "isolate", List.of(), "test", List.of(), "start", List.of(2, 3, 4, 5, 6),
            "hang", List.of(7), "back", List.of(7, 8), "enter", List.of(3, 5, 7));
        if (!from.get(act).contains(permits.get(permit).state)) {
            return 1;
        }
        for (int bar : barsOf.get(act)) {
            if (bars(bar, permit, act)) {
                return bar;
            }
        }
        return 0;
    }

    private int refusal(int permit, String act) {
        if (!isPermit(permit)) {
            return -1;
        }
        int bar = firstBar(permit, act);
        return bar == 0 ? 0 : -10 - bar;
    }

    int isolate(int permit) {
        int no = refusal(permit, "isolate");
        if (no != 0) {
            return no;
        }
        int before = many(5);
        permits.get(permit).state = "ISOLATED";
        return many(5) - before;
    }

    int test(int permit, int v) {
        if (!isPermit(permit) || !in(v, 0, 100)) {
            return -1;
        }
        int no = refusal(permit, "test");
        if (no != 0) {
            return no;
        }
        Permit w = permits.get(permit);
        w.test = v;
        w.testHour = now;
        w.state = w.state.equals("ISOLATED") ? "TESTED" : w.state;
        return v <= 10 ? 1 : 0;
    }

    int start(int permit) {
        int no = refusal(permit, "start");
        if (no != 0) {
            return no;
        }
        permits.get(permit).state = "LIVE";
        return 1;
    }

    int hang(int permit) {
        int no = refusal(permit, "hang");
        if (no != 0) {
            return no;
        }
        permits.get(permit).state = "HUNG";
        permits.get(permit).liveTill = now;
        return 1;
    }

    int back(int permit) {
        int no = refusal(permit, "back");
        if (no != 0) {
            return no;
        }
        int before = many(5);
        permits.get(permit).state = "BACK";
        return before - many(5);
    }

    int may(int permit, int act) {
        if (!isPermit(permit) || !in(act, 0, 5)) {
            return -1;
        }
        return firstBar(permit, List.of("isolate", "test", "start", "hang", "back", "enter").get(act));
    }

    int quarrels(int permit) {
        return isPermit(permit) ? quarrel(permit) : -1;
    }

    int permitOf(int permit, int what) {
        if (!isPermit(permit) || !in(what, 0, 8)) {
            return -1;
        }
        Permit w = permits.get(permit);
        Integer liveLast = w.state.equals("LIVE") ? Integer.valueOf(now) : w.liveTill;
        Integer[] parts = {
            w.place, w.sort, w.set, STATES.indexOf(w.state), w.holder, insideFor(permit), w.test, w.testHour, liveLast,
        };
        return parts[what] == null ? -3 : parts[what];
    }

    // ---- men

    int enter(int man, int permit) {
        if (!in(man, 0, 7) || !isPermit(permit)) {
            return -1;
        }
        if (isOff[man] || inside.containsKey(man)) {
            return -4;
        }
        int no = refusal(permit, "enter");
        if (no != 0) {
            return no;
        }
        inside.put(man, permit);
        return insideFor(permit);
    }

    int leave(int man) {
        if (!in(man, 0, 7)) {
            return -1;
        }
        Integer permit = inside.remove(man);
        return permit == null ? -4 : permit;
    }

    int shift(int man, boolean on) {
        if (!in(man, 0, 7)) {
            return -1;
        }
        boolean holds = permits.stream().anyMatch(w -> w.state.equals("LIVE") && w.holder != null && w.holder == man);
        if (isOff[man] != on || !on && (inside.containsKey(man) || holds)) {
            return -4;
        }
        isOff[man] = !on;
        return 1;
    }

    int siren() {
        int n = inside.size();
        inside.clear();
        for (Permit w : permits) {
            if (w.state.equals("LIVE")) {
                w.state = "HUNG";
                w.liveTill = now;
            }
        }
        return n;
    }

    // ---- sets, leaks, what was right

    private int hours(int set) {
        int n = 0;
        for (int i = 0; i < pipes.size(); i++) {
            n += (set & 1 << i) == 0 ? 0 : pipes.get(i).fitting == 0 ? 1 : 3;
        }
        return n;
    }

    private static List<Integer> members(int set) {
        List<Integer> found = new ArrayList<>();
        for (int i = 0; i < 12; i++) {
            if ((set & 1 << i) != 0) {
                found.add(i);
            }
        }
        return found;
    }

    private boolean isAhead(int set, int than) {
        List<Integer> one = members(set);
        List<Integer> other = members(than);
        if (hours(set) != hours(than)) {
            return hours(set) < hours(than);
        }
        if (one.size() != other.size()) {
            return one.size() < other.size();
        }
        for (int i = 0; i < one.size(); i++) {
            if (!one.get(i).equals(other.get(i))) {
                return one.get(i) < other.get(i);
            }
        }
        return false;
    }

    int leastSet(int place) {
        if (!in(place, 0, 9)) {
            return -1;
        }
        int best = -3;
        for (int set = 0; set < 1 << pipes.size(); set++) {
            boolean isOfFittings = true;
            for (int i : members(set)) {
                isOfFittings &= pipes.get(i).fitting != 2;
            }
            if (isOfFittings && (best == -3 || isAhead(set, best)) && isSafe(place, set, now, now)) {
                best = set;
            }
        }
        return best;
    }

    int least(int place) {
        int set = leastSet(place);
        return set < 0 ? set : hours(set);
    }

    int risk(int pipe) {
        if (!isPipe(pipe) || pipes.get(pipe).fitting == 2) {
            return -1;
        }
        int set = 0;
        for (int w = 0; w < permits.size(); w++) {
            Permit permit = permits.get(w);
            if (permit.state.equals("LIVE") && !isSafe(permit.place, closed() & ~(1 << pipe), now, now)) {
                set |= 1 << w;
            }
        }
        return set;
    }

    int right(int permit, int hour, int known) {
        if (!isPermit(permit) || !in(hour, 0, now) || !in(known, 0, now)) {
            return -1;
        }
        int live = hour == now ? live() : liveThen.get(hour);
        int closed = hour == now ? closed() : closedThen.get(hour);
        if ((live & 1 << permit) == 0) {
            return 2;
        }
        return isSafe(permits.get(permit).place, closed, hour, known) ? 1 : 0;
    }

    // ---- the order

    /** Plays an order through, fitting by fitting. */
    private int moves(List<Integer> order, int closedNow) {
        int moves = 0;
        int closed = closedNow;
        for (int k = 0; k <= order.size(); k++) {
            int next = closedNow | (k < order.size() ? permits.get(order.get(k)).set : 0);
            for (int i = 0; i < 12; i++) {
                moves += (closed & 1 << i) != (next & 1 << i) ? 1 : 0;
            }
            closed = next;
        }
        return moves;
    }

    /** All orders of the permits, those with the lesser permit at the first unlike place first. */
    private static void allOrders(List<Integer> left, List<Integer> ahead, List<List<Integer>> found) {
        if (left.isEmpty()) {
            found.add(new ArrayList<>(ahead));
        }
        for (int i = 0; i < left.size(); i++) {
            List<Integer> rest = new ArrayList<>(left);
            ahead.add(rest.remove(i));
            allOrders(rest, ahead, found);
            ahead.remove(ahead.size() - 1);
        }
    }

    int order() {
        List<Integer> asked = new ArrayList<>();
        for (int w = 0; w < permits.size(); w++) {
            if (permits.get(w).state.equals("ASKED")) {
                asked.add(w);
            }
        }
        List<List<Integer>> orders = new ArrayList<>();
        allOrders(asked, new ArrayList<>(), orders);
        int[] moves = orders.stream().mapToInt(o -> moves(o, closed())).toArray();
        int best = 0;
        for (int k = 1; k < moves.length; k++) {
            best = moves[k] < moves[best] ? k : best;
        }
        told = orders.get(best);
        proof = new ArrayList<>();
        rows = new ArrayList<>();
        for (int place = 0; place < asked.size(); place++) {
            for (int w : asked) {
                if (told.subList(0, place).contains(w)) {
                    continue;
                }
                int fewest = FAR;
                for (int k = 0; k < moves.length; k++) {
                    List<Integer> o = orders.get(k);
                    if (o.get(place) == w && o.subList(0, place).equals(told.subList(0, place))) {
                        fewest = Math.min(fewest, moves[k]);
                    }
                }
                proof.add(List.of(place, w, fewest));
                rows.add(new ArrayList<>(List.of(place, w, fewest)));
            }
        }
        return moves[best];
    }

    int ordered(int i) {
        return told == null || !in(i, 0, told.size() - 1) ? -3 : told.get(i);
    }

    int row(int i, int what) {
        return !in(what, 0, 2) ? -1 : !in(i, 0, rows.size() - 1) ? -3 : rows.get(i).get(what);
    }

    int alter(int i, int what, int v) {
        return !in(what, 0, 2) ? -1 : !in(i, 0, rows.size() - 1) ? -3 : rows.get(i).set(what, v);
    }

    int drop() {
        if (rows.isEmpty()) {
            return -3;
        }
        rows.remove(rows.size() - 1);
        return rows.size();
    }

    int check() {
        if (told == null) {
            return -3;
        }
        for (int i = 0; i < rows.size(); i++) {
            if (!rows.get(i).equals(proof.get(i))) {
                return i;
            }
        }
        return rows.size() < proof.size() ? rows.size() : -1;
    }

    int many(int what) {
        if (!in(what, 0, 10)) {
            return -1;
        }
        int on = 0;
        for (boolean off : isOff) {
            on += off ? 0 : 1;
        }
        int locks = 0;
        for (int i = 0; i < pipes.size(); i++) {
            locks += locks(i);
        }
        return new int[] {
            now, pipes.size(), rules.size(), permits.size(), members(live()).size(), members(closed()).size(),
            inside.size(), on, tape.length(), rows.size(), locks,
        }[what];
    }
}
