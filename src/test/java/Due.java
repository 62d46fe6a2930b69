import java.io.IOException;
import java.nio.charset.StandardCharsets;
import java.nio.file.Files;
import java.nio.file.Path;
import java.util.ArrayList;
import java.util.List;

/** Counts the answers that are as due, prints those that aren't, and tells a room rules as texts. */
final class Due {
    private final List<String> sentences = new ArrayList<>();
    private int right = 0;
    private int wrong = 0;
    private int ofThisSentence = 0;

    void is(String call, int got, int want) {
        ofThisSentence++;
        if (got == want) {
            right++;
        } else {
            wrong++;
            String sentence = sentences.isEmpty() ? "" : "'" + sentences.get(sentences.size() - 1) + "': ";
            System.out.println(sentence + call + " answered " + got + ", due is " + want);
        }
    }

    /** The answers from here on are due by this sentence of the document, in its own words. */
    void says(String sentence) {
        mustHaveAnswers();
        sentences.add(sentence);
    }

    private void mustHaveAnswers() {
        if (!sentences.isEmpty() && ofThisSentence == 0) {
            complain("no answer is looked at for '" + sentences.get(sentences.size() - 1) + "'");
        }
        ofThisSentence = 0;
    }

    private void complain(String text) {
        wrong++;
        System.out.println(text);
    }

    /** A sentence that the document doesn't have can't be why an answer is due. The document is a test's second word. */
    void quotedFrom(String[] args) throws IOException {
        mustHaveAnswers();
        System.out.println(sentences.size() + " sentences have answers of their own");
        if (args.length < 2 || !Files.exists(Path.of(args[1]))) {
            System.out.println("the document isn't here, so nobody looked whether it has them");
            return;
        }
        String text = plain(Files.readString(Path.of(args[1]), StandardCharsets.UTF_8));
        for (String sentence : sentences) {
            if (!text.contains(plain(sentence))) {
                complain("the document doesn't say '" + sentence + "'");
            }
        }
    }

    private static String plain(String text) {
        return text.replaceAll("\\s+", " ");
    }

    void end() {
        System.out.println(right + " answers are as due, " + wrong + " are not");
        if (wrong != 0 || right == 0) {
            System.exit(1);
        }
    }

    static void feed(PermitRoom room, String text) {
        byte[] bytes = text.getBytes(StandardCharsets.ISO_8859_1);
        for (int from = 0; from < bytes.length; from += 8) {
            int n = Math.min(8, bytes.length - from);
            long w = 0;
            for (int i = 0; i < n; i++) {
                w |= (bytes[from + i] & 255L) << 8 * i;
            }
            room.feed(w, n);
        }
    }

    static int rule(PermitRoom room, String text) {
        feed(room, text);
        return room.rule();
    }

    /** A permit that is ready to start: isolated, with a good test and a holder. */
    static int ready(PermitRoom room, int place, int sort, int set, int man) {
        int permit = room.ask(place, sort, set);
        room.hold(permit, man);
        room.isolate(permit);
        room.test(permit, 0);
        return permit;
    }

    static int live(PermitRoom room, int place, int sort, int set, int man) {
        int permit = ready(room, place, sort, set, man);
        room.start(permit);
        return permit;
    }

    /** A room with one permit, 0, held by man 0, for cold work at place 0, in that state. */
    static PermitRoom inState(int state) {
        PermitRoom room = new PermitRoom();
        room.ask(0, 0, 0);
        room.hold(0, 0);
        if (state >= 1) {
            room.isolate(0);
        }
        if (state == 2) {
            room.test(0, 0);
        }
        if (state == 3 || state == 4) {
            room.start(0);
        }
        if (state == 4) {
            room.hang(0);
        }
        if (state == 5) {
            room.back(0);
        }
        return room;
    }

    /** As many hours as there must be, whatever go() takes at once. */
    static void goTo(PermitRoom room, int hour) {
        while (room.many(0) < hour) {
            if (room.go(Math.min(48, hour - room.many(0))) < 0) {
                return;
            }
        }
    }

    /** Pipes with a valve each, from place i to place i + 1, over and over. */
    static PermitRoom roomOfValves(int count) {
        PermitRoom room = new PermitRoom();
        for (int i = 0; i < count; i++) {
            room.pipe(i % 9, i % 9 + 1, 0);
        }
        return room;
    }
}
