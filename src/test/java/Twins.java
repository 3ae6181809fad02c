import java.util.ArrayList;
import java.util.List;

/**
 * Compares links that were brought up alike, of which one has had a call refused. No single object could be looked at
 * from all sides within its 512 calls, so each side has two links of its own.
 */
final class Twins {
    interface Scene {
        InterleavedLink make();
    }

    interface Call {
        long on(InterleavedLink x);
    }

    interface Side {
        void look(InterleavedLink x, List<Long> answers);
    }

    private static final List<Side> SIDES = List.of(Twins::statesAndWindows, Twins::framesTowards0,
            Twins::framesTowards1, Twins::listsOfEnd0, Twins::listsOfEnd1, Twins::whatComesNext, Twins::afterAll);

    private Twins() {
    }

    /** The call is refused with this answer, and nothing that can be asked afterwards tells that it was made. */
    static void refused(Due due, String what, Scene scene, Call call, long answer) {
        for (Side side : SIDES) {
            InterleavedLink called = scene.make();
            due.is(what, call.on(called), answer);
            List<Long> answers = new ArrayList<>();
            side.look(called, answers);
            List<Long> wanted = new ArrayList<>();
            side.look(scene.make(), wanted);
            due.yes(what + ": changes nothing (" + wanted + ", not " + answers + ")", answers.equals(wanted));
        }
    }

    static void statesAndWindows(InterleavedLink x, List<Long> answers) {
        for (int end = 0; end < 2; end++) {
            add(answers, x.down(end), x.window(end, 0, false), x.window(end, 0, true));
            for (int stream = 1; stream <= 23; stream += 2) {
                add(answers, x.state(end, stream), x.window(end, stream, false), x.window(end, stream, true));
                add(answers, x.bytes(end, stream, false), x.bytes(end, stream, true));
            }
        }
    }

    private static void add(List<Long> answers, long... more) {
        for (long answer : more) {
            answers.add(answer);
        }
    }

    private static void framesTowards0(InterleavedLink x, List<Long> answers) {
        frames(x, 0, answers);
    }

    private static void framesTowards1(InterleavedLink x, List<Long> answers) {
        frames(x, 1, answers);
    }

    private static void frames(InterleavedLink x, int end, List<Long> answers) {
        for (int k = 0; k == 0 || k <= 48 && x.frame(end, k - 1, 0) != -1; k++) {
            for (int what = 0; what <= 4; what++) {
                add(answers, x.frame(end, k, what));
            }
        }
    }

    private static void listsOfEnd0(InterleavedLink x, List<Long> answers) {
        lists(x, 0, answers);
    }

    private static void listsOfEnd1(InterleavedLink x, List<Long> answers) {
        lists(x, 1, answers);
    }

    private static void lists(InterleavedLink x, int end, List<Long> answers) {
        for (int k = -2; k <= 5; k++) {
            add(answers, x.table(end, false, k), x.table(end, true, k));
        }
        for (int stream = 1; stream <= 23; stream += 2) {
            for (int k = 0; k < 6; k++) {
                add(answers, x.field(end, stream, k, false), x.field(end, stream, k, true));
            }
        }
    }

    /** The list in the making, whose turn it is, what waits and what has no ACK show in further calls alone. */
    private static void whatComesNext(InterleavedLink x, List<Long> answers) {
        for (int end = 0; end < 2; end++) {
            for (int stream = 1; stream <= 7; stream += 2) {
                add(answers, x.write(end, stream, 5, 1, false), x.read(end, stream, 1));
            }
            add(answers, x.pump(end, 1), x.header(end, 9, 300, false));
            settings(x, end, answers);
        }
        add(answers, x.request(false), x.respond(1, false), x.respond(3, false));
        frames(x, 0, answers);
    }

    private static void settings(InterleavedLink x, int end, List<Long> answers) {
        for (int k = 0; k < 9; k++) {
            add(answers, x.setting(end, 4, 20) ? 1 : 0);
        }
    }

    /** All that is on its way comes, and what was told and is in force shows in a new stream. */
    private static void afterAll(InterleavedLink x, List<Long> answers) {
        for (int k = 0; k < 60; k++) {
            add(answers, x.deliver(0), x.deliver(1));
        }
        add(answers, x.header(0, 9, 301, false), x.request(false), x.deliver(1));
        add(answers, x.header(1, 9, 302, false), x.respond(1, false), x.pump(1, 8), x.pump(0, 8));
        statesAndWindows(x, answers);
        settings(x, 0, answers);
        settings(x, 1, answers);
        add(answers, x.frame(0, 0, 4), x.frame(0, 1, 2), x.frame(1, 0, 4), x.frame(1, 1, 2));
    }
}
