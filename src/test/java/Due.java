import java.nio.charset.StandardCharsets;

/** Counts the answers that are as due, prints those that aren't, and tells a room rules as texts. */
final class Due {
    private int right = 0;
    private int wrong = 0;

    void is(String call, int got, int want) {
        if (got == want) {
            right++;
        } else {
            wrong++;
            System.out.println(call + " answered " + got + ", due is " + want);
        }
    }

    void end() {
        System.out.println(right + " answers are as due, " + wrong + " are not");
        if (wrong != 0 || right == 0) {
            System.exit(1);
        }
    }

    static void feed(PermitRoom room, String text) {
        byte[] bytes = text.getBytes(StandardCharsets.ISO_8859_1);
        for (int from = 0; from < bytes.length; from += 8) {
            int n = Math.min(8, bytes.length - from);
            long w = 0;
            for (int i = 0; i < n; i++) {
                w |= (bytes[from + i] & 255L) << 8 * i;
            }
            room.feed(w, n);
        }
    }

    static int rule(PermitRoom room, String text) {
        feed(room, text);
        return room.rule();
    }

    /** A permit that is ready to start: isolated, with a good test and a holder. */
    static int ready(PermitRoom room, int place, int sort, int set, int man) {
        int permit = room.ask(place, sort, set);
        room.hold(permit, man);
        room.isolate(permit);
        room.test(permit, 0);
        return permit;
    }

    static int live(PermitRoom room, int place, int sort, int set, int man) {
        int permit = ready(room, place, sort, set, man);
        room.start(permit);
        return permit;
    }
}
