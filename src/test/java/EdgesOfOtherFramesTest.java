/** The edges of errors, and of what an end does when it gets RESET, SETTINGS, FAREWELL or WINDOW. */
public final class EdgesOfOtherFramesTest {
    public static void main(String[] args) {
        Sentences s = new Sentences();
        s.holds("A LINK ERROR c: it sends FAREWELL c and is DOWN with 100 + c", EdgesOfOtherFramesTest::linkErrors);
        s.holds("an end that is down drops whatever comes", EdgesOfOtherFramesTest::downDrops);
        s.holds("A STREAM ERROR c: RESET c, the stream is cut, and the unread bytes are given back",
                EdgesOfOtherFramesTest::streamErrors);
        s.holds("RESET. The stream is none of 1, 3, .. 23, or is IDLE: link error 1.",
                EdgesOfOtherFramesTest::resetOnNone);
        s.holds("RESET. CLOSED: nothing.", EdgesOfOtherFramesTest::resetOnClosed);
        s.holds("RESET. Otherwise it is cut, and the unread bytes dropped are given back.",
                EdgesOfOtherFramesTest::resetCuts);
        s.holds("SETTINGS. With ACK: when no SETTINGS of this end is without ACK, link error 1",
                EdgesOfOtherFramesTest::ackTooMany);
        s.holds("SETTINGS. otherwise the oldest of those comes in force", EdgesOfOtherFramesTest::ackOldest);
        s.holds("SETTINGS. Without: setting 1 with a value out of its range: link error 1",
                EdgesOfOtherFramesTest::tableLimit);
        s.holds("SETTINGS. setting 3 with a value out of its range: link error 1", EdgesOfOtherFramesTest::mostStreams);
        s.holds("SETTINGS. 4: link error 3", EdgesOfOtherFramesTest::firstWindow);
        s.holds("SETTINGS. what the other end told is that now", EdgesOfOtherFramesTest::told);
        s.holds("SETTINGS. when a first window told changes by d, the send windows of the ACTIVE streams change by d",
                EdgesOfOtherFramesTest::sendWindowsChange);
        s.holds("SETTINGS. any other setting is nothing", EdgesOfOtherFramesTest::otherSettings);
        s.holds("SETTINGS. Where that is no link error, ACK is sent.", EdgesOfOtherFramesTest::acks);
        s.holds("FAREWELL c: the end is DOWN with 200 + c.", EdgesOfOtherFramesTest::farewell);
        s.holds("WINDOW x. For the link: x < 1: link error 1", EdgesOfOtherFramesTest::linkTooSmall);
        s.holds("WINDOW. the send window would be above 200: link error 3", EdgesOfOtherFramesTest::linkTooLarge);
        s.holds("WINDOW. otherwise x is added to it (link)", EdgesOfOtherFramesTest::linkAdds);
        s.holds("WINDOW. the stream is none of 1, 3, .. 23, or is IDLE: link error 1",
                EdgesOfOtherFramesTest::windowOnNone);
        s.holds("WINDOW. CLOSED: nothing.", EdgesOfOtherFramesTest::windowOnClosed);
        s.holds("WINDOW. x < 1: stream error 1.", EdgesOfOtherFramesTest::streamTooSmall);
        s.holds("WINDOW. Its send window would be above 200: stream error 3.", EdgesOfOtherFramesTest::streamTooLarge);
        s.holds("WINDOW. Otherwise x is added to it (stream).", EdgesOfOtherFramesTest::streamAdds);
        s.finish();
    }

    private static void linkErrors(Due due) {
        for (int end = 0; end < 2; end++) {
            InterleavedLink x = Scenes.responded(1);
            x.write(end, 1, 0, 5, false);
            Scenes.got(x, end, 0, 1, 7);
            x.inject(end, 8, 0, 161, false);
            due.linkError("one", x, end, 3);
            due.is("the stream stays", x.state(end, 1), 1);
            due.is("what waits stays", x.bytes(end, 1, false), 5);
            due.is("what is unread stays", x.bytes(end, 1, true), 7);
            due.is("nothing is given back", x.window(end, 0, true), 33);
            due.is("the other end is up", x.down(1 - end), 0);
            due.is("FAREWELL", x.deliver(1 - end), 0);
            due.is("now it is down", x.down(1 - end), 203);
            due.frames("no FAREWELL for a FAREWELL", x, end, 0);
        }
    }

    private static void downDrops(Due due) {
        int[][] frames = {{0, 1, 1}, {0, 2, 1}, {1, 1, 1}, {1, 3, 1}, {1, 3, 99}, {3, 1, 0}, {3, 9, 0}, {4, 4, 0},
            {4, 4, 65}, {7, 0, 5}, {8, 0, 5}, {8, 0, 0}, {8, 1, 5}, {8, 1, 0}};
        for (int end = 0; end < 2; end++) {
            for (int way = 0; way < 2; way++) {
                InterleavedLink x = Scenes.responded(1);
                int number = way == 0 ? 203 : 101;
                Scenes.got(x, end, way == 0 ? 7 : 3, 0, 3);
                due.is("down", x.down(end), number);
                for (int[] frame : frames) {
                    due.is("dropped", Scenes.got(x, end, frame[0], frame[1], frame[2]), 0);
                }
                due.is("ACK dropped", Scenes.got(x, end, 4, 0, 0, true), 0);
                due.is("still down as before", x.down(end), number);
                due.is("the stream", x.state(end, 1), 1);
                due.is("no new stream", x.state(end, 3), 0);
                due.is("nothing unread", x.bytes(end, 1, true), 0);
                due.is("its receive window", x.window(end, 1, true), 16);
                due.is("its send window", x.window(end, 1, false), 16);
                due.is("the link's receive window", x.window(end, 0, true), 40);
                due.is("the link's send window", x.window(end, 0, false), 40);
                due.frames("nothing is sent", x, 1 - end, way);
            }
        }
    }

    private static void streamErrors(Due due) {
        for (int end = 0; end < 2; end++) {
            for (int unread : new int[] {0, 1, 15}) {
                InterleavedLink x = Scenes.responded(1);
                x.write(end, 1, 0, 5, false);
                Scenes.got(x, end, 0, 1, unread);
                x.inject(end, 8, 1, 0, false);
                due.streamError("with " + unread + " unread", x, end, 1, unread);
            }
        }
    }

    private static void resetOnNone(Due due) {
        for (int end = 0; end < 2; end++) {
            for (int stream : Scenes.NO_STREAMS) {
                InterleavedLink x = Scenes.requested(12);
                x.inject(end, 3, stream, 0, false);
                due.linkError("RESET on " + stream, x, end, 1);
            }
            InterleavedLink x = Scenes.requested(1);
            x.inject(end, 3, 3, 0, false);
            due.linkError("IDLE", x, end, 1);
            InterleavedLink y = Scenes.requested(12);
            due.is("RESET on 1", Scenes.got(y, end, 3, 1, 0), 0);
            due.is("RESET on 23", Scenes.got(y, end, 3, 23, 0), 0);
            due.is("cut", y.state(end, 23), 4);
        }
    }

    private static void resetOnClosed(Due due) {
        for (int end = 0; end < 2; end++) {
            InterleavedLink x = Scenes.responded(1);
            Scenes.got(x, end, 0, 1, 6, true);
            x.write(end, 1, 0, 0, true);
            x.pump(end, 1);
            x.deliver(1 - end);
            due.is("CLOSED BY ITS ENDS", x.state(end, 1), 4);
            due.is("RESET", Scenes.got(x, end, 3, 1, 0), 0);
            due.is("unread stays", x.bytes(end, 1, true), 6);
            due.frames("nothing is sent", x, 1 - end, 0);
            due.is("BY ITS ENDS still", Scenes.got(x, end, 1, 1, 1), 105);
            InterleavedLink y = Scenes.in(Scenes.CUT, end);
            due.is("RESET", Scenes.got(y, end, 3, 1, 0), 0);
            due.frames("nothing is sent", y, 1 - end, 0);
            due.is("BY A CUT still", Scenes.got(y, end, 1, 1, 1), 0);
        }
    }

    private static void resetCuts(Due due) {
        for (int end = 0; end < 2; end++) {
            for (int unread : new int[] {0, 1, 15}) {
                for (int state = Scenes.OPEN; state <= Scenes.HALF_REMOTE; state++) {
                    InterleavedLink x = Scenes.in(state == Scenes.HALF_LOCAL ? state : Scenes.OPEN, end);
                    Scenes.got(x, end, 0, 1, unread, state == Scenes.HALF_REMOTE);
                    x.write(end, 1, 0, 3, false);
                    due.is("the state", x.state(end, 1), state);
                    due.is("RESET, any code", Scenes.got(x, end, 3, 1, Integer.MIN_VALUE), 0);
                    due.is("CLOSED", x.state(end, 1), 4);
                    due.is("none waits", x.bytes(end, 1, false), 0);
                    due.is("none unread", x.bytes(end, 1, true), 0);
                    due.frames("no RESET is sent", x, 1 - end, unread == 0 ? 0 : 1);
                    due.frame("given back", x, 1 - end, 0, unread == 0 ? new int[0] : new int[] {8, 0, unread, 0, 0});
                    due.is("the window of the link", x.window(end, 0, true), 40);
                    due.is("BY A CUT", Scenes.got(x, end, 1, 1, 1), 0);
                }
            }
        }
    }

    private static void ackTooMany(Due due) {
        for (int end = 0; end < 2; end++) {
            InterleavedLink x = new InterleavedLink();
            x.inject(end, 4, 4, 4, true);
            due.linkError("none was sent", x, end, 1);
            InterleavedLink y = new InterleavedLink();
            Scenes.set(y, end, 4, 20);
            y.inject(end, 4, 0, 0, true);
            due.linkError("it had its ACK", y, end, 1);
            InterleavedLink z = new InterleavedLink();
            z.setting(1 - end, 4, 20);
            z.inject(end, 4, 0, 0, true);
            z.deliver(end);
            z.deliver(1 - end);
            due.linkError("that of the other end", z, end, 1);
        }
    }

    private static void ackOldest(Due due) {
        InterleavedLink x = Scenes.requested(1);
        x.setting(1, 4, 10);
        x.setting(1, 3, 1);
        x.setting(1, 4, 20);
        x.setting(1, 1, 50);
        due.is("the first ACK", Scenes.got(x, 1, 4, 0, 0, true), 0);
        due.is("10 is in force", x.window(1, 1, true), 10);
        due.is("1 is not", Scenes.got(x, 1, 1, 3, 1), 0);
        due.is("the second ACK", Scenes.got(x, 1, 4, 0, 0, true), 0);
        due.is("1 is in force", Scenes.got(x, 1, 1, 5, 1), 7);
        due.is("20 is not", x.window(1, 1, true), 10);
        due.is("the third ACK", Scenes.got(x, 1, 4, 0, 0, true), 0);
        due.is("20 is in force", x.window(1, 1, true), 20);
        due.is("50 is not", Scenes.got(x, 1, 1, 7, 1), 7);
        due.is("the fourth ACK", Scenes.got(x, 1, 4, 0, 0, true), 0);
        due.is("50 is in force", Scenes.got(x, 1, 1, 9, 1), 109);
    }

    private static void range(Due due, int setting, int top, int code) {
        for (int end = 0; end < 2; end++) {
            for (int value : new int[] {-1, top + 1, Integer.MIN_VALUE, Integer.MAX_VALUE}) {
                InterleavedLink x = new InterleavedLink();
                x.inject(end, 4, setting, value, false);
                due.linkError(setting + " with " + value, x, end, code);
            }
            for (int value : new int[] {0, 1, top - 1, top}) {
                InterleavedLink x = new InterleavedLink();
                due.is(setting + " with " + value, Scenes.got(x, end, 4, setting, value), 0);
                due.is("up", x.down(end), 0);
            }
        }
    }

    private static void tableLimit(Due due) {
        range(due, 1, 200, 1);
    }

    private static void mostStreams(Due due) {
        range(due, 3, 12, 1);
    }

    private static void firstWindow(Due due) {
        range(due, 4, 64, 3);
    }

    private static void told(Due due) {
        for (int value : new int[] {0, 200}) {
            InterleavedLink x = new InterleavedLink();
            Scenes.got(x, 0, 4, 1, value);
            Scenes.request(x, false);
            due.is("a table limit", x.table(0, false, -2), value);
        }
        for (int value : new int[] {0, 12}) {
            InterleavedLink x = new InterleavedLink();
            Scenes.got(x, 0, 4, 3, value);
            due.is("most streams", Scenes.request(x, false), value == 0 ? -1 : 1);
        }
        for (int value : new int[] {0, 64}) {
            InterleavedLink x = new InterleavedLink();
            Scenes.got(x, 0, 4, 4, value);
            due.is("first window", x.window(0, Scenes.request(x, false), false), value);
            due.is("the receive window is the own", x.window(0, 1, true), 16);
        }
    }

    private static void sendWindowsChange(Due due) {
        for (int end = 0; end < 2; end++) {
            for (int state = Scenes.OPEN; state <= Scenes.HALF_REMOTE; state++) {
                InterleavedLink x = Scenes.responded(1);
                x.write(end, 1, 0, 8, state == Scenes.HALF_LOCAL);
                x.pump(end, 1);
                if (state == Scenes.HALF_REMOTE) {
                    Scenes.got(x, end, 0, 1, 0, true);
                }
                due.is("the state", x.state(end, 1), state);
                due.is("8 of 16 are left", x.window(end, 1, false), 8);
                for (int first : new int[] {17, 17, 64, 8, 7, 0, 16}) {
                    Scenes.got(x, end, 4, 4, first);
                    due.is("by the change to " + first, x.window(end, 1, false), first - 8);
                }
                due.is("the receive window stays", x.window(end, 1, true), 16);
                due.is("the link's stays", x.window(end, 0, false), 32);
            }
        }
    }

    private static void otherSettings(Due due) {
        for (int setting : new int[] {-1, 0, 2, 5, Integer.MIN_VALUE, Integer.MAX_VALUE}) {
            for (int value : new int[] {-1, 0, 7, 999}) {
                InterleavedLink x = Scenes.requested(1);
                due.is("setting " + setting, Scenes.got(x, 0, 4, setting, value), 0);
                due.frame("ACK", x, 1, 0, 4, 0, 0, 1, 0);
                due.is("the send window", x.window(0, 1, false), 16);
                due.is("most streams", Scenes.request(x, false), 3);
                due.is("no MAXIMUM", x.frame(1, 1, 2), 1);
                due.is("first window", x.window(0, 3, false), 16);
            }
        }
    }

    private static void acks(Due due) {
        for (int end = 0; end < 2; end++) {
            for (int setting : new int[] {1, 3, 4, 9}) {
                InterleavedLink x = new InterleavedLink();
                Scenes.got(x, end, 4, setting, 5);
                due.frame("ACK for " + setting, x, 1 - end, 0, 4, 0, 0, 1, 0);
                due.frames("one", x, 1 - end, 1);
            }
            InterleavedLink x = new InterleavedLink();
            x.setting(end, 4, 5);
            x.deliver(1 - end);
            due.is("the ACK", x.deliver(end), 0);
            due.frames("no ACK for an ACK", x, 1 - end, 0);
        }
    }

    private static void farewell(Due due) {
        for (int end = 0; end < 2; end++) {
            for (int code : new int[] {0, 1, 14, 15}) {
                InterleavedLink x = Scenes.responded(1);
                due.is("no error", Scenes.got(x, end, 7, 9, code), 0);
                due.is("down", x.down(end), 200 + code);
                due.is("the other end is up", x.down(1 - end), 0);
                due.frames("nothing is sent", x, 1 - end, 0);
            }
        }
    }

    private static void linkTooSmall(Due due) {
        for (int end = 0; end < 2; end++) {
            for (int increment : new int[] {0, -1, Integer.MIN_VALUE}) {
                InterleavedLink x = new InterleavedLink();
                x.inject(end, 8, 0, increment, false);
                due.linkError("WINDOW " + increment, x, end, 1);
                due.is("the send window", x.window(end, 0, false), 40);
            }
            due.is("1", Scenes.got(new InterleavedLink(), end, 8, 0, 1), 0);
        }
    }

    private static void linkTooLarge(Due due) {
        for (int end = 0; end < 2; end++) {
            for (int increment : new int[] {161, Integer.MAX_VALUE - 40, Integer.MAX_VALUE - 39, Integer.MAX_VALUE}) {
                InterleavedLink x = new InterleavedLink();
                x.inject(end, 8, 0, increment, false);
                due.linkError("WINDOW " + increment, x, end, 3);
                due.is("the send window", x.window(end, 0, false), 40);
            }
            InterleavedLink x = new InterleavedLink();
            due.is("160", Scenes.got(x, end, 8, 0, 160), 0);
            due.is("200", x.window(end, 0, false), 200);
            x.inject(end, 8, 0, 1, false);
            due.linkError("201", x, end, 3);
        }
    }

    private static void linkAdds(Due due) {
        for (int end = 0; end < 2; end++) {
            InterleavedLink x = Scenes.responded(1);
            Scenes.got(x, end, 8, 0, 1);
            due.is("41", x.window(end, 0, false), 41);
            Scenes.got(x, end, 8, 0, 9);
            due.is("50", x.window(end, 0, false), 50);
            due.is("the receive window stays", x.window(end, 0, true), 40);
            due.is("that of a stream stays", x.window(end, 1, false), 16);
            due.frames("nothing is sent", x, 1 - end, 0);
        }
    }

    private static void windowOnNone(Due due) {
        for (int end = 0; end < 2; end++) {
            for (int stream : Scenes.NO_STREAMS) {
                if (stream != 0) {
                    InterleavedLink x = Scenes.requested(12);
                    x.inject(end, 8, stream, 1, false);
                    due.linkError("WINDOW on " + stream, x, end, 1);
                }
            }
            for (int increment : new int[] {0, 1, 200}) {
                InterleavedLink x = Scenes.requested(1);
                x.inject(end, 8, 3, increment, false);
                due.linkError("IDLE", x, end, 1);
            }
            InterleavedLink y = Scenes.requested(12);
            due.is("WINDOW on 1", Scenes.got(y, end, 8, 1, 1), 0);
            due.is("WINDOW on 23", Scenes.got(y, end, 8, 23, 1), 0);
        }
    }

    private static void windowOnClosed(Due due) {
        for (int end = 0; end < 2; end++) {
            for (int state : new int[] {Scenes.CLOSED, Scenes.CUT}) {
                for (int increment : new int[] {-1, 0, 1, 201, Integer.MAX_VALUE}) {
                    InterleavedLink x = Scenes.in(state, end);
                    due.is("WINDOW " + increment, Scenes.got(x, end, 8, 1, increment), 0);
                    due.frames("nothing is sent", x, 1 - end, 0);
                    due.is("nothing changes", x.window(end, 1, false), 0);
                    due.is("nor is it cut", Scenes.got(x, end, 1, 1, 1), state == Scenes.CUT ? 0 : 105);
                }
            }
        }
    }

    /** A link on which stream 1 is ACTIVE in this way at the end and has 9 unread bytes there. */
    private static InterleavedLink withUnread(int state, int end) {
        InterleavedLink x = Scenes.in(state == Scenes.HALF_LOCAL ? state : Scenes.OPEN, end);
        Scenes.got(x, end, 0, 1, 9, state == Scenes.HALF_REMOTE);
        return x;
    }

    private static void streamTooSmall(Due due) {
        for (int end = 0; end < 2; end++) {
            for (int state = Scenes.OPEN; state <= Scenes.HALF_REMOTE; state++) {
                for (int increment : new int[] {0, -1, Integer.MIN_VALUE}) {
                    InterleavedLink x = Scenes.in(state, end);
                    x.inject(end, 8, 1, increment, false);
                    due.streamError("WINDOW " + increment, x, end, 1, 0);
                    InterleavedLink y = withUnread(state, end);
                    y.inject(end, 8, 1, increment, false);
                    due.streamError("WINDOW " + increment + " with unread bytes", y, end, 1, 9);
                }
                due.is("1", Scenes.got(Scenes.in(state, end), end, 8, 1, 1), 0);
            }
        }
    }

    private static void streamTooLarge(Due due) {
        for (int end = 0; end < 2; end++) {
            for (int state = Scenes.OPEN; state <= Scenes.HALF_REMOTE; state++) {
                for (int increment : new int[] {185, Integer.MAX_VALUE - 15, Integer.MAX_VALUE}) {
                    InterleavedLink x = Scenes.in(state, end);
                    x.inject(end, 8, 1, increment, false);
                    due.streamError("WINDOW " + increment, x, end, 3, 0);
                    InterleavedLink y = withUnread(state, end);
                    y.inject(end, 8, 1, increment, false);
                    due.streamError("WINDOW " + increment + " with unread bytes", y, end, 3, 9);
                }
                InterleavedLink x = Scenes.in(state, end);
                due.is("184", Scenes.got(x, end, 8, 1, 184), 0);
                due.is("200", x.window(end, 1, false), 200);
                x.inject(end, 8, 1, 1, false);
                due.streamError("201", x, end, 3, 0);
            }
            InterleavedLink x = Scenes.responded(1);
            Scenes.got(x, end, 8, 1, 184);
            Scenes.got(x, end, 4, 4, 64);
            due.is("a setting may go above", x.window(end, 1, false), 248);
            due.is("an increment may not", Scenes.got(x, end, 8, 1, 1), 3);
            InterleavedLink y = Scenes.responded(1);
            y.write(end, 1, 0, 8, false);
            y.pump(end, 1);
            Scenes.got(y, end, 4, 4, 0);
            due.is("from -8", Scenes.got(y, end, 8, 1, 208), 0);
            due.is("to 200", y.window(end, 1, false), 200);
        }
    }

    private static void streamAdds(Due due) {
        for (int end = 0; end < 2; end++) {
            for (int state = Scenes.OPEN; state <= Scenes.HALF_REMOTE; state++) {
                InterleavedLink x = Scenes.in(state, end);
                Scenes.got(x, end, 8, 1, 1);
                due.is("17", x.window(end, 1, false), 17);
                Scenes.got(x, end, 8, 1, 13);
                due.is("30", x.window(end, 1, false), 30);
                due.is("the receive window stays", x.window(end, 1, true), 16);
                due.is("that of the link stays", x.window(end, 0, false), 40);
                due.frames("nothing is sent", x, 1 - end, 0);
            }
        }
    }
}
