/** Ways to bring a link into the state that a test begins with. */
final class Scenes {
    static final int NONE = -1;
    static final int FULL = -2;
    static final int DATA = 0;
    static final int HEADERS = 1;
    static final int RESET = 3;
    static final int SETTINGS = 4;
    static final int FAREWELL = 7;
    static final int WINDOW = 8;

    private Scenes() {
    }

    static int count(InterleavedLink x, int end) {
        int k = 0;
        while (x.frame(end, k, 0) != NONE) {
            k++;
        }
        return k;
    }

    /** Delivers all that is in the pipe towards the end. */
    static void drain(InterleavedLink x, int end) {
        while (x.frame(end, 0, 0) != NONE) {
            x.deliver(end);
        }
    }

    /** Delivers until both pipes are empty. */
    static void settle(InterleavedLink x) {
        while (x.frame(0, 0, 0) != NONE || x.frame(1, 0, 0) != NONE) {
            drain(x, 0);
            drain(x, 1);
        }
    }

    static int request(InterleavedLink x, boolean last) {
        x.header(0, 1, 0, false);
        return x.request(last);
    }

    static int respond(InterleavedLink x, int stream, boolean last) {
        x.header(1, 1, 0, false);
        return x.respond(stream, last);
    }

    /** A link on which the first n streams are OPEN at both ends, without a response. */
    static InterleavedLink requested(int n) {
        InterleavedLink x = new InterleavedLink();
        for (int k = 0; k < n; k++) {
            request(x, false);
        }
        settle(x);
        return x;
    }

    /** A link on which the first n streams are OPEN at both ends, with a response. */
    static InterleavedLink responded(int n) {
        InterleavedLink x = requested(n);
        for (int k = 0; k < n; k++) {
            respond(x, 2 * k + 1, false);
        }
        settle(x);
        return x;
    }

    /** Injects frames until the pipe towards the end has so many, at most 30. */
    static void fill(InterleavedLink x, int end, int frames) {
        while (count(x, end) < frames) {
            x.inject(end, SETTINGS, 9, 0, false);
        }
    }

    /** Brings the pipe towards the end to so many frames, above 30, by the ACKs that the other end sends. */
    static void overfill(InterleavedLink x, int end, int frames) {
        fill(x, end, 30);
        while (count(x, end) < frames) {
            x.inject(1 - end, SETTINGS, 9, 0, false);
            x.deliver(1 - end);
        }
    }

    /** A link on which the end is down with 101. */
    static InterleavedLink fallen(InterleavedLink x, int end) {
        x.inject(end, RESET, 0, 0, false);
        drain(x, end);
        return x;
    }
}
