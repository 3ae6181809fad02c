/** The edges of the ends, streams, windows and settings, as 'Terms' has them. */
public final class EdgesOfTermsTest {
    private static final int[] STATES = {Scenes.IDLE, Scenes.OPEN, Scenes.HALF_LOCAL, Scenes.HALF_REMOTE,
        Scenes.CLOSED, Scenes.CUT};

    public static void main(String[] args) {
        Sentences s = new Sentences();
        s.holds("ENDS are 0, which makes requests, and 1, which responds.", EdgesOfTermsTest::ends);
        s.holds("The PIPE towards an end holds frames, in the order in which the other end sent them.",
                EdgesOfTermsTest::order);
        s.holds("The STREAMS are the odd numbers 1, 3, .. 23.", EdgesOfTermsTest::streams);
        s.holds("At each end a stream is IDLE (0), .. or CLOSED (4)", EdgesOfTermsTest::states);
        s.holds("it is ACTIVE when it is 1, 2 or 3 (at end 0, which opens)", EdgesOfTermsTest::activeAtEnd0);
        s.holds("it is ACTIVE when it is 1, 2 or 3 (at end 1, which gets requests)", EdgesOfTermsTest::activeAtEnd1);
        s.holds("Having sent END makes OPEN to HALF LOCAL and HALF REMOTE to CLOSED", EdgesOfTermsTest::sentEnd);
        s.holds("having got END makes OPEN to HALF REMOTE and HALF LOCAL to CLOSED", EdgesOfTermsTest::gotEnd);
        s.holds("To CUT a stream makes it CLOSED, BY A CUT", EdgesOfTermsTest::cutIsClosed);
        s.holds("its bytes that wait to be sent and its unread bytes are dropped", EdgesOfTermsTest::cutDrops);
        s.holds("a send window for the link, 40 at first", EdgesOfTermsTest::linkSendWindow);
        s.holds("a receive window for the link, 40 at first", EdgesOfTermsTest::linkReceiveWindow);
        s.holds("at first the send window the FIRST WINDOW that the other end has told", EdgesOfTermsTest::firstSend);
        s.holds("at first the receive window the own first window IN FORCE", EdgesOfTermsTest::firstReceive);
        s.holds("1 the TABLE LIMIT (0 .. 200; 100 at first)", EdgesOfTermsTest::hundredAtFirst);
        s.holds("4 the FIRST WINDOW (0 .. 64; 16 at first)", EdgesOfTermsTest::sixteenAtFirst);
        s.holds("3 the most STREAMS (0 .. 12; 12 at first)", EdgesOfTermsTest::twelveAtFirst);
        s.holds("that of end 1 counts alone", EdgesOfTermsTest::endOneCountsAlone);
        s.holds("IN FORCE at this end when the ACK for it comes; until then the earlier value",
                EdgesOfTermsTest::inForceByAck);
        s.holds("ACKs come in the order of the SETTINGS", EdgesOfTermsTest::orderOfAcks);
        s.holds("a first window in force that changes by d changes the receive windows of the ACTIVE streams by d",
                EdgesOfTermsTest::receiveWindowsChange);
        s.holds("To GIVE BACK n bytes, n > 0, is to add n .. and to send WINDOW n for the link.",
                EdgesOfTermsTest::givesBack);
        s.holds("(For n = 0 nothing is done.)", EdgesOfTermsTest::givesNothingBack);
        s.finish();
    }

    private static void ends(Due due) {
        InterleavedLink x = Scenes.requested(1);
        due.is("only end 0 opens", x.state(0, 1), 1);
        due.is("end 1 gets it", x.field(1, 1, 0, false), 1);
        due.is("end 0 got nothing", x.field(0, 1, 0, false), -1);
        x.header(0, 2, 9, false);
        due.is("the list of end 0 is not for responses", x.respond(1, false), -1);
        x.header(1, 1, 9, false);
        due.is("respond", x.respond(1, false), 1);
        due.frames("towards end 0", x, 0, 1);
        due.frames("towards end 1", x, 1, 0);
        for (int end : Scenes.NO_ENDS) {
            due.is("down(" + end + ")", x.down(end), -1);
        }
        due.is("down(0)", x.down(0), 0);
        due.is("down(1)", x.down(1), 0);
    }

    private static void order(Due due) {
        InterleavedLink x = Scenes.responded(2);
        x.setting(0, 4, 1);
        x.reset(0, 1, 2);
        x.inject(1, 8, 0, 3, false);
        x.reset(0, 3, 4);
        int[] amounts = {1, 2, 3, 4};
        for (int k = 0; k < 4; k++) {
            due.is("frame " + k, x.frame(1, k, 2), amounts[k]);
        }
        for (int k = 0; k < 4; k++) {
            due.is("the oldest", x.frame(1, 0, 2), amounts[k]);
            x.deliver(1);
        }
    }

    private static void streams(Due due) {
        InterleavedLink x = Scenes.responded(12);
        for (int end = 0; end < 2; end++) {
            for (int stream = 1; stream <= 23; stream += 2) {
                due.is("stream " + stream, x.state(end, stream), 1);
            }
            for (int stream : Scenes.NO_STREAMS) {
                due.is("stream " + stream, x.state(end, stream), -1);
            }
        }
        for (int stream : new int[] {1, 23}) {
            due.is("write on " + stream, x.write(0, stream, stream, 1, false), 1);
            due.is("pump", x.pump(0, 8), 1);
            due.is("deliver", x.deliver(1), 0);
            due.is("read on " + stream, x.read(1, stream, 1), stream);
        }
    }

    private static void states(Due due) {
        for (int end = 0; end < 2; end++) {
            for (int state : STATES) {
                InterleavedLink x = Scenes.in(state, end);
                due.is("state at end " + end, x.state(end, 1), Math.min(state, 4));
            }
        }
    }

    private static boolean isActive(int state) {
        return state == 1 || state == 2 || state == 3;
    }

    private static void activeAtEnd0(Due due) {
        for (int state : STATES) {
            InterleavedLink x = Scenes.in(state, 0);
            Scenes.set(x, 1, 3, 1);
            int number = state == Scenes.IDLE ? 1 : 3;
            due.is("request beside a stream in " + state, Scenes.request(x, false), isActive(state) ? -1 : number);
        }
    }

    private static void activeAtEnd1(Due due) {
        for (int state : STATES) {
            InterleavedLink x = Scenes.in(state, 1);
            Scenes.set(x, 1, 3, 1);
            due.is("HEADERS beside a stream in " + state, Scenes.got(x, 1, 1, 3, 1), isActive(state) ? 7 : 0);
        }
    }

    private static void sentEnd(Due due) {
        for (int end = 0; end < 2; end++) {
            InterleavedLink x = Scenes.in(Scenes.OPEN, end);
            x.write(end, 1, 0, 0, true);
            due.is("said, not sent", x.state(end, 1), 1);
            x.pump(end, 1);
            due.is("OPEN at end " + end, x.state(end, 1), 2);
            InterleavedLink y = Scenes.in(Scenes.HALF_REMOTE, end);
            y.write(end, 1, 0, 0, true);
            y.pump(end, 1);
            due.is("HALF REMOTE at end " + end, y.state(end, 1), 4);
            due.is("CLOSED BY ITS ENDS", Scenes.got(y, end, 1, 1, 1), 105);
        }
        InterleavedLink x = new InterleavedLink();
        Scenes.request(x, true);
        due.is("in a request", x.state(0, 1), 2);
        InterleavedLink y = Scenes.requested(1);
        Scenes.respond(y, 1, true);
        due.is("in a response", y.state(1, 1), 2);
        InterleavedLink z = new InterleavedLink();
        Scenes.request(z, true);
        z.deliver(1);
        Scenes.respond(z, 1, true);
        due.is("in a response on HALF REMOTE", z.state(1, 1), 4);
    }

    private static void gotEnd(Due due) {
        for (int end = 0; end < 2; end++) {
            InterleavedLink x = Scenes.in(Scenes.OPEN, end);
            due.is("DATA with END", Scenes.got(x, end, 0, 1, 0, true), 0);
            due.is("OPEN at end " + end, x.state(end, 1), 3);
            InterleavedLink y = Scenes.in(Scenes.HALF_LOCAL, end);
            due.is("DATA with END", Scenes.got(y, end, 0, 1, 0, true), 0);
            due.is("HALF LOCAL at end " + end, y.state(end, 1), 4);
            due.is("CLOSED BY ITS ENDS", Scenes.got(y, end, 1, 1, 1), 105);
            InterleavedLink z = Scenes.in(Scenes.OPEN, end);
            due.is("DATA without END", Scenes.got(z, end, 0, 1, 0, false), 0);
            due.is("OPEN still", z.state(end, 1), 1);
        }
        InterleavedLink x = new InterleavedLink();
        Scenes.got(x, 1, 1, 1, 1, true);
        due.is("in a request", x.state(1, 1), 3);
        InterleavedLink y = Scenes.requested(1);
        Scenes.got(y, 0, 1, 1, 1, true);
        due.is("in a response", y.state(0, 1), 3);
        InterleavedLink z = new InterleavedLink();
        Scenes.request(z, true);
        Scenes.got(z, 0, 1, 1, 1, true);
        due.is("in a response on HALF LOCAL", z.state(0, 1), 4);
    }

    /** CLOSED BY A CUT differs from CLOSED BY ITS ENDS by what HEADERS and DATA do. */
    private static void cutIsClosed(Due due) {
        for (int state = Scenes.OPEN; state <= Scenes.HALF_REMOTE; state++) {
            for (int end = 0; end < 2; end++) {
                InterleavedLink x = Scenes.in(state, end);
                due.yes("reset", x.reset(end, 1, 0));
                due.is("cut from " + state, x.state(end, 1), 4);
                due.is("HEADERS", Scenes.got(x, end, 1, 1, 1), 0);
                due.is("DATA", Scenes.got(x, end, 0, 1, 1), 0);
                due.is("up", x.down(end), 0);
            }
        }
    }

    private static void cutDrops(Due due) {
        for (int way = 0; way < 3; way++) {
            InterleavedLink x = Scenes.responded(1);
            x.write(1, 1, 0, 8, false);
            Scenes.got(x, 1, 0, 1, 9);
            due.is("wait", x.bytes(1, 1, false), 8);
            due.is("unread", x.bytes(1, 1, true), 9);
            if (way == 0) {
                x.reset(1, 1, 0);
            } else if (way == 1) {
                Scenes.got(x, 1, 3, 1, 0);
            } else {
                due.is("a stream error", Scenes.got(x, 1, 8, 1, 0), 1);
            }
            due.is("none waits", x.bytes(1, 1, false), 0);
            due.is("none is unread", x.bytes(1, 1, true), 0);
            due.is("nothing to send", x.pump(1, 8), 0);
            due.is("nothing to read", x.read(1, 1, 7), 0);
        }
    }

    /** Three streams have room for 48 bytes. */
    private static void linkSendWindow(Due due) {
        for (int end = 0; end < 2; end++) {
            InterleavedLink x = Scenes.responded(3);
            due.is("at first", x.window(end, 0, false), 40);
            for (int stream = 1; stream <= 5; stream += 2) {
                x.write(end, stream, 0, 8, false);
                x.write(end, stream, 0, 8, false);
            }
            due.is("40 bytes go", x.pump(end, 8), 5);
            due.is("none is left", x.window(end, 0, false), 0);
            due.is("a 41st does not", x.pump(end, 8), 0);
            due.is("it waits", x.bytes(end, 5, false), 8);
        }
    }

    private static void linkReceiveWindow(Due due) {
        for (int end = 0; end < 2; end++) {
            InterleavedLink x = Scenes.responded(3);
            due.is("at first", x.window(end, 0, true), 40);
            int[] amounts = {15, 15, 10};
            for (int k = 0; k < 3; k++) {
                due.is("DATA", Scenes.got(x, end, 0, 2 * k + 1, amounts[k]), 0);
            }
            due.is("none is left", x.window(end, 0, true), 0);
            due.is("a 41st", Scenes.got(x, end, 0, 5, 1), 103);
        }
    }

    private static void firstSend(Due due) {
        for (int told : new int[] {0, 1, 63, 64}) {
            InterleavedLink x = new InterleavedLink();
            x.setting(1, 4, told);
            due.is("before it is told", x.window(0, Scenes.request(x, false), false), 16);
            x.deliver(0);
            due.is("told", x.window(0, Scenes.request(x, false), false), told);
            InterleavedLink y = new InterleavedLink();
            y.setting(0, 4, told);
            y.deliver(1);
            Scenes.got(y, 1, 1, 1, 1);
            due.is("told to end 1", y.window(1, 1, false), told);
            due.is("not its own", y.window(1, 1, true), 16);
        }
    }

    private static void firstReceive(Due due) {
        for (int told : new int[] {0, 1, 63, 64}) {
            InterleavedLink x = new InterleavedLink();
            x.setting(1, 4, told);
            Scenes.got(x, 1, 1, 1, 1);
            due.is("not in force", x.window(1, 1, true), 16);
            x.deliver(0);
            x.deliver(1);
            Scenes.got(x, 1, 1, 3, 1);
            due.is("in force", x.window(1, 3, true), told);
            due.is("not what the other told", x.window(1, 3, false), 16);
            InterleavedLink y = new InterleavedLink();
            Scenes.set(y, 0, 4, told);
            due.is("in force at end 0", y.window(0, Scenes.request(y, false), true), told);
        }
    }

    /** The ACK for the SETTINGS that nobody sent comes for the first window, which stays 16. */
    private static void hundredAtFirst(Due due) {
        for (int told : new int[] {0, 99, 100, 101, 200}) {
            InterleavedLink x = new InterleavedLink();
            x.inject(0, 4, 1, told, false);
            x.setting(1, 4, 16);
            due.is("told", x.deliver(0), 0);
            Scenes.request(x, true);
            due.is("the ACK", x.deliver(1), 0);
            due.is("MAXIMUM " + told, x.deliver(1), told <= 100 ? 0 : 109);
        }
        InterleavedLink x = new InterleavedLink();
        Scenes.request(x, true);
        due.is("no MAXIMUM before one is told", x.frame(1, 0, 2), 1);
    }

    private static void sixteenAtFirst(Due due) {
        for (int end = 0; end < 2; end++) {
            InterleavedLink x = Scenes.responded(1);
            x.write(end, 1, 0, 8, false);
            x.write(end, 1, 0, 8, false);
            x.write(end, 1, 0, 1, false);
            due.is("16 bytes go", x.pump(end, 8), 2);
            due.is("the 17th waits", x.bytes(end, 1, false), 1);
            due.is("15 come", Scenes.got(x, end, 0, 1, 15), 0);
            due.is("16 come", Scenes.got(x, end, 0, 1, 1), 0);
            due.is("17 do not", Scenes.got(x, end, 0, 1, 1), 3);
        }
    }

    private static void twelveAtFirst(Due due) {
        InterleavedLink x = new InterleavedLink();
        for (int stream = 1; stream <= 23; stream += 2) {
            due.is("request", Scenes.request(x, false), stream);
            due.is("deliver", x.deliver(1), 0);
        }
        due.is("the twelfth is OPEN", x.state(1, 23), 1);
        for (int most : new int[] {0, 1, 11, 12}) {
            InterleavedLink y = new InterleavedLink();
            Scenes.set(y, 1, 3, most);
            for (int k = 0; k < most; k++) {
                due.is("request", Scenes.request(y, false), 2 * k + 1);
            }
            due.is("one more than " + most, Scenes.request(y, false), -1);
        }
    }

    private static void endOneCountsAlone(Due due) {
        InterleavedLink x = new InterleavedLink();
        Scenes.set(x, 0, 3, 0);
        due.is("end 0 opens", Scenes.request(x, false), 1);
        due.is("end 1 takes it", x.deliver(1), 0);
        Scenes.set(x, 0, 3, 12);
        Scenes.set(x, 1, 3, 1);
        due.is("that of end 1", Scenes.request(x, false), -1);
        due.is("that of end 1, at end 1", Scenes.got(x, 1, 1, 3, 1), 7);
    }

    private static void inForceByAck(Due due) {
        InterleavedLink x = Scenes.requested(1);
        x.setting(1, 4, 10);
        due.is("sent", x.window(1, 1, true), 16);
        x.deliver(0);
        due.is("got by the other end", x.window(1, 1, true), 16);
        x.deliver(1);
        due.is("the ACK came", x.window(1, 1, true), 10);
        InterleavedLink y = Scenes.requested(1);
        y.setting(1, 3, 1);
        due.is("sent: the earlier one", Scenes.got(y, 1, 1, 3, 1), 0);
        y.deliver(0);
        y.deliver(1);
        due.is("the ACK came", Scenes.got(y, 1, 1, 5, 1), 7);
        InterleavedLink z = new InterleavedLink();
        z.setting(1, 1, 99);
        due.is("sent: the earlier one", Scenes.got(z, 1, 1, 1, 1), 0);
        z.deliver(0);
        z.deliver(1);
        due.is("the ACK came", Scenes.got(z, 1, 1, 3, 1), 109);
    }

    private static void orderOfAcks(Due due) {
        InterleavedLink x = Scenes.requested(1);
        int[] values = {1, 2, 3, 4, 5, 6, 7, 8};
        for (int value : values) {
            due.yes("setting", x.setting(1, 4, value));
        }
        for (int value : values) {
            Scenes.got(x, 1, 4, 0, 0, true);
            due.is("in force", x.window(1, 1, true), value);
        }
        due.is("a ninth ACK", Scenes.got(x, 1, 4, 0, 0, true), 101);
        InterleavedLink y = Scenes.requested(1);
        int sent = 0;
        int came = 0;
        for (int round = 0; round < 6; round++) {
            while (sent < came + 8) {
                sent++;
                due.yes("setting", y.setting(1, 4, sent));
                y.deliver(0);
            }
            for (int k = 0; k < 5; k++) {
                came++;
                due.is("the ACK", y.deliver(1), 0);
                due.is("in force", y.window(1, 1, true), came);
            }
        }
    }

    private static void receiveWindowsChange(Due due) {
        for (int end = 0; end < 2; end++) {
            for (int state = Scenes.OPEN; state <= Scenes.HALF_REMOTE; state++) {
                InterleavedLink x = Scenes.responded(1);
                Scenes.got(x, end, 0, 1, 10);
                if (state == Scenes.HALF_LOCAL) {
                    Scenes.sendEnd(x, end, 1);
                } else if (state == Scenes.HALF_REMOTE) {
                    Scenes.got(x, end, 0, 1, 0, true);
                }
                due.is("6 of 16 are left in state " + state, x.window(end, 1, true), 6);
                int[] firsts = {17, 17, 64, 10, 9, 0, 16};
                for (int first : firsts) {
                    Scenes.set(x, end, 4, first);
                    due.is("by the change to " + first, x.window(end, 1, true), first - 10);
                }
                due.is("that of the link stays", x.window(end, 0, true), 30);
                due.is("the send window stays", x.window(end, 1, false), 16);
            }
        }
    }

    private static void givesBack(Due due) {
        for (int n = 1; n <= 7; n += 6) {
            InterleavedLink x = Scenes.responded(1);
            Scenes.got(x, 1, 0, 1, 10);
            x.read(1, 1, n);
            due.is("added", x.window(1, 0, true), 30 + n);
            due.frame("sent", x, 0, 0, 8, 0, n, 0, 0);
        }
    }

    private static void givesNothingBack(Due due) {
        InterleavedLink x = Scenes.responded(3);
        due.is("read with nothing unread", x.read(1, 1, 7), 0);
        due.frames("read", x, 0, 0);
        x.reset(1, 1, 0);
        due.frames("reset: RESET alone", x, 0, 1);
        due.is("DATA without bytes, cut", Scenes.got(x, 1, 0, 1, 0), 0);
        due.frames("DATA", x, 0, 1);
        due.is("RESET got", Scenes.got(x, 1, 3, 3, 0), 0);
        due.frames("RESET", x, 0, 1);
        due.is("a stream error", Scenes.got(x, 1, 1, 5, 1), 1);
        due.frames("a stream error: RESET alone", x, 0, 2);
        due.is("the window of the link", x.window(1, 0, true), 40);
    }
}
