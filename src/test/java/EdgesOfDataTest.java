/** The edges of what an end does when it gets DATA: each numbered case, and which of two comes first. */
public final class EdgesOfDataTest {
    public static void main(String[] args) {
        Sentences s = new Sentences();
        s.holds("1. The stream is none of 1, 3, .. 23: link error 1.", EdgesOfDataTest::noStream);
        s.holds("1. or is IDLE: link error 1.", EdgesOfDataTest::idle);
        s.holds("2. n is above the receive window of the link: link error 3.", EdgesOfDataTest::linkWindow);
        s.holds("1 comes before 2.", EdgesOfDataTest::oneBeforeTwo);
        s.holds("Now the receive window of the link gets n less.", EdgesOfDataTest::takenFromTheLink);
        s.holds("3. The stream is CLOSED BY A CUT: n bytes are given back.", EdgesOfDataTest::cut);
        s.holds("2 comes before 3.", EdgesOfDataTest::twoBeforeThree);
        s.holds("4. It is CLOSED BY ITS ENDS: stream error 5.", EdgesOfDataTest::closed);
        s.holds("4. or HALF REMOTE: stream error 5.", EdgesOfDataTest::halfRemote);
        s.holds("2 comes before 4, 5 and 6.", EdgesOfDataTest::twoBeforeTheRest);
        s.holds("5. No HEADERS came for it: stream error 1.", EdgesOfDataTest::noHeaders);
        s.holds("4 comes before 5.", EdgesOfDataTest::fourBeforeFive);
        s.holds("6. n is above 0, and above the stream's receive window: stream error 3.",
                EdgesOfDataTest::streamWindow);
        s.holds("6. a frame without bytes is never above it.", EdgesOfDataTest::noBytes);
        s.holds("4 and 5 come before 6.", EdgesOfDataTest::beforeSix);
        s.holds("In 4 to 6 the n bytes are given back together with the unread ones.", EdgesOfDataTest::together);
        s.holds("7. the stream's receive window gets n less", EdgesOfDataTest::taken);
        s.holds("7. the bytes are unread bytes behind those that are", EdgesOfDataTest::behind);
        s.holds("7. then END, if it has it.", EdgesOfDataTest::end);
        s.finish();
    }

    private static void noStream(Due due) {
        for (int end = 0; end < 2; end++) {
            for (int stream : Scenes.NO_STREAMS) {
                InterleavedLink x = Scenes.responded(12);
                x.inject(end, 0, stream, 0, false);
                due.linkError("DATA on " + stream, x, end, 1);
            }
            InterleavedLink x = Scenes.responded(12);
            due.is("DATA on 1", Scenes.got(x, end, 0, 1, 1), 0);
            due.is("DATA on 23", Scenes.got(x, end, 0, 23, 1), 0);
        }
    }

    private static void idle(Due due) {
        for (int end = 0; end < 2; end++) {
            InterleavedLink x = Scenes.responded(1);
            x.inject(end, 0, 3, 1, true);
            due.linkError("IDLE", x, end, 1);
            due.is("it stays IDLE", x.state(end, 3), 0);
            due.is("nothing taken", x.window(end, 0, true), 40);
        }
    }

    /** A link on which the receive window of the link has so many left at end 1, at least 10; stream 1 has no bytes. */
    private static InterleavedLink left(int left) {
        InterleavedLink x = Scenes.responded(4);
        Scenes.got(x, 1, 0, 3, 15);
        Scenes.got(x, 1, 0, 5, 25 - left);
        return x;
    }

    private static void linkWindow(Due due) {
        for (int left = 10; left <= 14; left++) {
            InterleavedLink x = left(left);
            due.is("what is left", x.window(1, 0, true), left);
            due.is("as many as are left", Scenes.got(x, 1, 0, 1, left), 0);
            due.is("none is left", x.window(1, 0, true), 0);
            due.is("no byte", Scenes.got(x, 1, 0, 7, 0), 0);
            InterleavedLink y = left(left);
            y.inject(1, 0, 1, left + 1, true);
            due.linkError("one more than " + left, y, 1, 3);
            due.is("nothing taken", y.window(1, 0, true), left);
            due.is("no byte unread", y.bytes(1, 1, true), 0);
            due.is("the stream stays", y.state(1, 1), 1);
        }
    }

    private static void oneBeforeTwo(Due due) {
        InterleavedLink x = left(10);
        x.inject(1, 0, 9, 15, false);
        due.linkError("IDLE", x, 1, 1);
        InterleavedLink y = left(10);
        y.inject(1, 0, 2, 15, false);
        due.linkError("no stream", y, 1, 1);
    }

    private static void takenFromTheLink(Due due) {
        for (int end = 0; end < 2; end++) {
            InterleavedLink x = Scenes.responded(3);
            int[] amounts = {0, 1, 15};
            int left = 40;
            for (int k = 0; k < 3; k++) {
                Scenes.got(x, end, 0, 2 * k + 1, amounts[k]);
                left -= amounts[k];
                due.is("left", x.window(end, 0, true), left);
                due.is("the send window stays", x.window(end, 0, false), 40);
            }
        }
    }

    private static void cut(Due due) {
        for (int end = 0; end < 2; end++) {
            for (int n : new int[] {0, 1, 15}) {
                InterleavedLink x = Scenes.in(Scenes.CUT, end);
                due.is("cut", Scenes.got(x, end, 0, 1, n, true), 0);
                due.is("CLOSED still", x.state(end, 1), 4);
                due.is("the window", x.window(end, 0, true), 40);
                due.is("nothing unread", x.bytes(end, 1, true), 0);
                due.frames("given back", x, 1 - end, n == 0 ? 0 : 1);
                if (n > 0) {
                    due.frame("given back", x, 1 - end, 0, 8, 0, n, 0, 0);
                }
            }
        }
    }

    private static void twoBeforeThree(Due due) {
        InterleavedLink x = left(10);
        x.reset(1, 1, 0);
        x.deliver(0);
        due.is("as many as are left", Scenes.got(x, 1, 0, 1, 10), 0);
        x.deliver(0);
        x.inject(1, 0, 1, 11, false);
        due.linkError("one more", x, 1, 3);
    }

    private static void closed(Due due) {
        for (int end = 0; end < 2; end++) {
            for (int n : new int[] {0, 1, 15}) {
                InterleavedLink x = Scenes.in(Scenes.CLOSED, end);
                x.inject(end, 0, 1, n, true);
                due.streamError("CLOSED BY ITS ENDS", x, end, 5, n);
            }
        }
    }

    private static void halfRemote(Due due) {
        for (int end = 0; end < 2; end++) {
            for (int n : new int[] {0, 1, 15}) {
                InterleavedLink x = Scenes.in(Scenes.HALF_REMOTE, end);
                x.inject(end, 0, 1, n, true);
                due.streamError("HALF REMOTE", x, end, 5, n);
            }
            for (int state : new int[] {Scenes.OPEN, Scenes.HALF_LOCAL}) {
                InterleavedLink x = Scenes.in(state, end);
                due.is("in the state " + state, Scenes.got(x, end, 0, 1, 1), 0);
            }
        }
    }

    private static void twoBeforeTheRest(Due due) {
        InterleavedLink x = left(10);
        Scenes.got(x, 1, 0, 1, 0, true);
        x.inject(1, 0, 1, 11, false);
        due.linkError("before 4", x, 1, 3);
        InterleavedLink y = Scenes.requested(4);
        for (int stream = 1; stream <= 5; stream += 2) {
            Scenes.got(y, 0, 1, stream, 1);
        }
        Scenes.got(y, 0, 0, 1, 15);
        Scenes.got(y, 0, 0, 3, 15);
        due.is("10 are left", y.window(0, 0, true), 10);
        y.inject(0, 0, 7, 11, false);
        due.linkError("before 5", y, 0, 3);
        InterleavedLink z = left(10);
        Scenes.got(z, 1, 0, 1, 9);
        z.inject(1, 0, 1, 8, false);
        due.linkError("before 6", z, 1, 3);
    }

    private static void noHeaders(Due due) {
        for (int n : new int[] {0, 1, 15}) {
            InterleavedLink x = Scenes.requested(1);
            x.inject(0, 0, 1, n, true);
            due.streamError("OPEN", x, 0, 1, n);
            InterleavedLink y = new InterleavedLink();
            Scenes.request(y, true);
            y.deliver(1);
            y.inject(0, 0, 1, n, false);
            due.streamError("HALF LOCAL", y, 0, 1, n);
        }
        InterleavedLink x = Scenes.requested(1);
        Scenes.got(x, 0, 1, 1, 1);
        due.is("they came", Scenes.got(x, 0, 0, 1, 1), 0);
        InterleavedLink y = Scenes.requested(1);
        due.is("at end 1 they came with the request", Scenes.got(y, 1, 0, 1, 1), 0);
    }

    /** A stream below a new one is CLOSED BY ITS ENDS though no HEADERS came for it. */
    private static void fourBeforeFive(Due due) {
        InterleavedLink x = new InterleavedLink();
        Scenes.got(x, 1, 1, 3, 1);
        due.is("closed below 3", x.state(1, 1), 4);
        x.inject(1, 0, 1, 2, false);
        due.streamError("no HEADERS came", x, 1, 5, 2);
    }

    private static void streamWindow(Due due) {
        for (int end = 0; end < 2; end++) {
            for (int first : new int[] {0, 1, 14}) {
                InterleavedLink x = Scenes.responded(1);
                Scenes.set(x, end, 4, first);
                due.is("as many", Scenes.got(x, end, 0, 1, first), 0);
                due.is("none is left", x.window(end, 1, true), 0);
                InterleavedLink y = Scenes.responded(1);
                Scenes.set(y, end, 4, first);
                y.inject(end, 0, 1, first + 1, true);
                due.streamError("one more than " + first, y, end, 3, first + 1);
            }
        }
    }

    private static void noBytes(Due due) {
        InterleavedLink x = Scenes.responded(1);
        Scenes.got(x, 1, 0, 1, 5);
        Scenes.set(x, 1, 4, 5);
        due.is("none is left", x.window(1, 1, true), 0);
        due.is("no byte at 0", Scenes.got(x, 1, 0, 1, 0), 0);
        Scenes.set(x, 1, 4, 4);
        due.is("below 0", x.window(1, 1, true), -1);
        due.is("no byte at -1", Scenes.got(x, 1, 0, 1, 0), 0);
        due.is("OPEN", x.state(1, 1), 1);
        InterleavedLink y = Scenes.responded(1);
        Scenes.got(y, 1, 0, 1, 5);
        Scenes.set(y, 1, 4, 4);
        y.inject(1, 0, 1, 1, false);
        due.streamError("a byte at -1", y, 1, 3, 6);
        Scenes.set(x, 1, 4, 0);
        due.is("END at -5", Scenes.got(x, 1, 0, 1, 0, true), 0);
        due.is("HALF REMOTE", x.state(1, 1), 3);
    }

    private static void beforeSix(Due due) {
        InterleavedLink x = Scenes.in(Scenes.HALF_REMOTE, 1);
        Scenes.set(x, 1, 4, 0);
        x.inject(1, 0, 1, 1, false);
        due.streamError("4", x, 1, 5, 1);
        InterleavedLink y = Scenes.requested(1);
        Scenes.set(y, 0, 4, 0);
        y.inject(0, 0, 1, 1, false);
        due.streamError("5", y, 0, 1, 1);
    }

    private static void together(Due due) {
        for (int end = 0; end < 2; end++) {
            InterleavedLink x = Scenes.responded(1);
            Scenes.got(x, end, 0, 1, 9, true);
            x.inject(end, 0, 1, 2, false);
            due.streamError("4, HALF REMOTE", x, end, 5, 11);
            InterleavedLink y = Scenes.responded(1);
            Scenes.got(y, end, 0, 1, 9, true);
            y.write(end, 1, 0, 0, true);
            y.pump(end, 1);
            y.deliver(1 - end);
            y.inject(end, 0, 1, 0, false);
            due.streamError("4, CLOSED BY ITS ENDS, the unread ones alone", y, end, 5, 9);
            InterleavedLink z = Scenes.responded(1);
            Scenes.got(z, end, 0, 1, 9);
            z.inject(end, 0, 1, 8, false);
            due.streamError("6", z, end, 3, 17);
        }
    }

    private static void taken(Due due) {
        for (int end = 0; end < 2; end++) {
            InterleavedLink x = Scenes.responded(2);
            int left = 16;
            for (int n : new int[] {0, 1, 14, 1, 0}) {
                Scenes.got(x, end, 0, 1, n);
                left -= n;
                due.is("left", x.window(end, 1, true), left);
                due.is("unread", x.bytes(end, 1, true), 16 - left);
            }
            due.is("the other stream's stays", x.window(end, 3, true), 16);
            due.is("its send window stays", x.window(end, 1, false), 16);
            due.frames("nothing is sent", x, 1 - end, 0);
        }
    }

    /** As many unread bytes on one stream as the link lets be. */
    private static void behind(Due due) {
        InterleavedLink x = Scenes.responded(1);
        Scenes.set(x, 1, 4, 64);
        for (int k = 0; k < 4; k++) {
            x.write(0, 1, 0x0807060504030201L + 0x1010101010101010L * k, 8, false);
        }
        x.pump(0, 8);
        x.write(0, 1, 0x4847464544434241L, 8, false);
        x.pump(0, 8);
        Scenes.drain(x, 1);
        due.is("40 are unread", x.bytes(1, 1, true), 40);
        due.is("the first seven", x.read(1, 1, 7), 0x07060504030201L);
        due.is("the next seven", x.read(1, 1, 7), 0x16151413121108L);
        due.is("one", x.read(1, 1, 1), 0x17);
        due.is("seven", x.read(1, 1, 7), 0x26252423222118L);
        due.is("seven", x.read(1, 1, 7), 0x35343332312827L);
        due.is("seven", x.read(1, 1, 7), 0x44434241383736L);
        due.is("the rest", x.read(1, 1, 7), 0x48474645L);
        due.is("none", x.read(1, 1, 7), 0);
    }

    private static void end(Due due) {
        for (int n : new int[] {0, 1}) {
            InterleavedLink x = Scenes.responded(1);
            Scenes.got(x, 1, 0, 1, n, false);
            due.is("without END", x.state(1, 1), 1);
            Scenes.got(x, 1, 0, 1, n, true);
            due.is("with END", x.state(1, 1), 3);
            due.is("its bytes are unread", x.bytes(1, 1, true), 2 * n);
            InterleavedLink y = Scenes.in(Scenes.HALF_LOCAL, 1);
            Scenes.got(y, 1, 0, 1, n, true);
            due.is("with END on HALF LOCAL", y.state(1, 1), 4);
            due.is("its bytes stay unread", y.bytes(1, 1, true), n);
        }
    }
}
