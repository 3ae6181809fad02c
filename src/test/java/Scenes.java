/**
 * Ways to bring a link into the state that a test begins with. They are sparing with calls, as what an object answers
 * behind its 512th call is free.
 */
final class Scenes {
    static final int NONE = -1;
    static final int FULL = -2;
    static final int DATA = 0;
    static final int HEADERS = 1;
    static final int RESET = 3;
    static final int SETTINGS = 4;
    static final int FAREWELL = 7;
    static final int WINDOW = 8;

    static final int IDLE = 0;
    static final int OPEN = 1;
    static final int HALF_LOCAL = 2;
    static final int HALF_REMOTE = 3;
    /** CLOSED BY ITS ENDS; state answers this for a stream that was cut too. */
    static final int CLOSED = 4;
    static final int CUT = 5;

    /** More than a pipe ever holds; the loops end there, so that a fault cannot keep a test running. */
    private static final int PIPE_BOUND = 60;

    /** Ends that there are not. */
    static final int[] NO_ENDS = {-1, 2, Integer.MIN_VALUE, Integer.MAX_VALUE};
    /** Numbers of no stream; 0 is among them. */
    static final int[] NO_STREAMS = {-23, -1, 0, 2, 22, 24, 25, Integer.MIN_VALUE, Integer.MIN_VALUE + 1,
        Integer.MAX_VALUE};

    private Scenes() {
    }

    static int count(InterleavedLink x, int end) {
        int k = 0;
        while (k < PIPE_BOUND && x.frame(end, k, 0) != NONE) {
            k++;
        }
        return k;
    }

    /** Delivers all that is in the pipe towards the end. */
    static void drain(InterleavedLink x, int end) {
        int k = 0;
        while (k < PIPE_BOUND && x.deliver(end) >= 0) {
            k++;
        }
    }

    /** Delivers until both pipes are empty. */
    static void settle(InterleavedLink x) {
        int k = 0;
        do {
            drain(x, 0);
            drain(x, 1);
            k++;
        } while (k < PIPE_BOUND && x.frame(0, 0, 0) != NONE);
    }

    /** The end gets a frame that nobody sent; its pipe must be empty. Answers what deliver answers. */
    static int got(InterleavedLink x, int end, int kind, int stream, int number, boolean flag) {
        x.inject(end, kind, stream, number, flag);
        return x.deliver(end);
    }

    static int got(InterleavedLink x, int end, int kind, int stream, int number) {
        return got(x, end, kind, stream, number, false);
    }

    static int request(InterleavedLink x, boolean last) {
        x.header(0, 1, 0, false);
        return x.request(last);
    }

    static int respond(InterleavedLink x, int stream, boolean last) {
        x.header(1, 1, 0, false);
        return x.respond(stream, last);
    }

    /** A link on which the first n streams are OPEN at both ends, without a response. */
    static InterleavedLink requested(int n) {
        InterleavedLink x = new InterleavedLink();
        for (int k = 0; k < n; k++) {
            request(x, false);
        }
        settle(x);
        return x;
    }

    /** A link on which the first n streams are OPEN at both ends, with a response. */
    static InterleavedLink responded(int n) {
        InterleavedLink x = requested(n);
        for (int k = 0; k < n; k++) {
            respond(x, 2 * k + 1, false);
        }
        settle(x);
        return x;
    }

    /** A link with empty pipes on which the stream 1 is in the state at the end; HEADERS went both ways, but for IDLE. */
    static InterleavedLink in(int state, int end) {
        InterleavedLink x = state == IDLE ? new InterleavedLink() : responded(1);
        if (state == HALF_LOCAL || state == CLOSED) {
            sendEnd(x, end, 1);
        }
        if (state == HALF_REMOTE || state == CLOSED) {
            sendEnd(x, 1 - end, 1);
        }
        if (state == CUT) {
            x.reset(end, 1, 0);
        }
        settle(x);
        return x;
    }

    /** The end sends END in a frame without bytes, which the other end gets. */
    static void sendEnd(InterleavedLink x, int end, int stream) {
        x.write(end, stream, 0, 0, true);
        x.pump(end, 1);
        x.deliver(1 - end);
    }

    /** The end sends a setting, which is then told and in force; both pipes must be empty. */
    static void set(InterleavedLink x, int end, int setting, int value) {
        x.setting(end, setting, value);
        x.deliver(1 - end);
        x.deliver(end);
    }

    /** Puts frames into the empty pipe towards the end, at most 30; each lets the end send one byte more. */
    static void fill(InterleavedLink x, int end, int frames) {
        for (int k = 0; k < frames; k++) {
            x.inject(end, WINDOW, 0, 1, false);
        }
    }

    /**
     * Brings the empty pipe towards the end to so many frames, above 30, by the ACKs that the other end, which has an
     * empty pipe, sends.
     */
    static void overfill(InterleavedLink x, int end, int frames) {
        fill(x, end, 30);
        for (int k = 30; k < frames; k++) {
            got(x, 1 - end, SETTINGS, 9, 0);
        }
    }

    /** The same link, on which the end has gone down with 101 when all in the pipe towards it has come. */
    static InterleavedLink fallen(InterleavedLink x, int end) {
        x.inject(end, RESET, 0, 0, false);
        drain(x, end);
        return x;
    }
}
