/** Counts the answers of one test that are not as due. */
final class Due {
    private int wrong = 0;

    void is(String call, long got, long want) {
        if (got != want) {
            wrong++;
            if (wrong <= 50) {
                System.out.println(call + " answered " + got + ", due is " + want);
            }
        }
    }

    void yes(String call, boolean got) {
        is(call, got ? 1 : 0, 1);
    }

    void no(String call, boolean got) {
        is(call, got ? 1 : 0, 0);
    }

    int wrong() {
        return wrong;
    }

    /** The kind, stream number, amount and flag of a frame. */
    void frame(String what, InterleavedLink x, int end, int k, int... want) {
        for (int part = 0; part < want.length; part++) {
            is(what + ": frame(" + end + ", " + k + ", " + part + ")", x.frame(end, k, part), want[part]);
        }
    }

    /** The pipe towards the end has so many frames. */
    void frames(String what, InterleavedLink x, int end, int count) {
        if (count > 0) {
            yes(what + ": frame " + (count - 1) + " towards end " + end, x.frame(end, count - 1, 0) != -1);
        }
        is(what + ": frame " + count + " towards end " + end, x.frame(end, count, 0), -1);
    }

    /** The next frame that the end gets is a link error; nothing else is on its way to the other end. */
    void linkError(String what, InterleavedLink x, int end, int code) {
        is(what, x.deliver(end), 100 + code);
        is(what + ": down", x.down(end), 100 + code);
        frame(what + ": FAREWELL", x, 1 - end, 0, 7, 0, code, 0, 0);
        frames(what, x, 1 - end, 1);
    }

    /** The only frame that the end gets is an error of stream 1, which alone had bytes that came. */
    void streamError(String what, InterleavedLink x, int end, int code, int givenBack) {
        is(what, x.deliver(end), code);
        is(what + ": up", x.down(end), 0);
        is(what + ": CLOSED", x.state(end, 1), 4);
        frame(what + ": RESET", x, 1 - end, 0, 3, 1, code, 0, 0);
        if (givenBack > 0) {
            frame(what + ": given back", x, 1 - end, 1, 8, 0, givenBack, 0, 0);
        }
        frames(what, x, 1 - end, givenBack > 0 ? 2 : 1);
        is(what + ": the window of the link", x.window(end, 0, true), 40);
        is(what + ": none unread", x.bytes(end, 1, true), 0);
        is(what + ": none waits", x.bytes(end, 1, false), 0);
        is(what + ": BY A CUT", Scenes.got(x, end, Scenes.HEADERS, 1, 1), 0);
    }

    void finish() {
        System.out.println(wrong == 0 ? "all answers are as due" : wrong + " answers are not as due");
        if (wrong != 0) {
            System.exit(1);
        }
    }
}
