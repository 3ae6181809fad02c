/** The edges of what an end does when it gets HEADERS: each numbered case, and which of two comes first. */
public final class EdgesOfHeadersTest {
    private static final int WRONG_INDEX = 99;

    public static void main(String[] args) {
        Sentences s = new Sentences();
        s.holds("1. The stream is none of 1, 3, .. 23: link error 1.", EdgesOfHeadersTest::noStream);
        s.holds("1. or, at end 0, it is IDLE: link error 1.", EdgesOfHeadersTest::idleAtEnd0);
        s.holds("1 comes before 2.", EdgesOfHeadersTest::oneBeforeTwo);
        s.holds("2. The block is got; a step is wrong: link error 9.", EdgesOfHeadersTest::wrongStep);
        s.holds("2. The block is got, whatever becomes of the stream.", EdgesOfHeadersTest::alwaysGot);
        s.holds("2 comes before 3 to 8.", EdgesOfHeadersTest::twoBeforeTheRest);
        s.holds("3. all IDLE streams with lower numbers become CLOSED BY THEIR ENDS", EdgesOfHeadersTest::lowerOnes);
        s.holds("3. and those that are not IDLE stay", EdgesOfHeadersTest::lowerOnesStay);
        s.holds("3. as many streams are ACTIVE here as the most streams in force: RESET 7", EdgesOfHeadersTest::asMany);
        s.holds("3. or more", EdgesOfHeadersTest::orMore);
        s.holds("3. the stream is CLOSED BY A CUT", EdgesOfHeadersTest::refusedIsCut);
        s.holds("3. otherwise it is OPEN, with its header list, and END, if it has it.", EdgesOfHeadersTest::opens);
        s.holds("4. It is CLOSED BY A CUT: nothing.", EdgesOfHeadersTest::cut);
        s.holds("5. CLOSED BY ITS ENDS: link error 5.", EdgesOfHeadersTest::closed);
        s.holds("6. HALF REMOTE: stream error 5.", EdgesOfHeadersTest::halfRemote);
        s.holds("7. HEADERS came for it before: stream error 1.", EdgesOfHeadersTest::cameBefore);
        s.holds("8. Otherwise the list is its header list; and END, if it has it.", EdgesOfHeadersTest::response);
        s.finish();
    }

    private static void noStream(Due due) {
        for (int end = 0; end < 2; end++) {
            for (int stream : Scenes.NO_STREAMS) {
                InterleavedLink x = Scenes.requested(12);
                x.inject(end, 1, stream, 1, true);
                due.linkError("HEADERS on " + stream, x, end, 1);
            }
        }
        InterleavedLink x = new InterleavedLink();
        due.is("on 1 at end 1", Scenes.got(x, 1, 1, 1, 1), 0);
        due.is("on 23 at end 1", Scenes.got(x, 1, 1, 23, 1), 0);
        InterleavedLink y = Scenes.requested(12);
        due.is("on 1 at end 0", Scenes.got(y, 0, 1, 1, 1), 0);
        due.is("on 23 at end 0", Scenes.got(y, 0, 1, 23, 1), 0);
    }

    private static void idleAtEnd0(Due due) {
        InterleavedLink x = Scenes.requested(1);
        x.inject(0, 1, 3, 1, false);
        due.linkError("IDLE at end 0", x, 0, 1);
        due.is("it stays IDLE", x.state(0, 3), 0);
        InterleavedLink y = Scenes.requested(1);
        due.is("IDLE at end 1", Scenes.got(y, 1, 1, 3, 1), 0);
    }

    private static void oneBeforeTwo(Due due) {
        for (int end = 0; end < 2; end++) {
            InterleavedLink x = Scenes.requested(1);
            x.inject(end, 1, 2, WRONG_INDEX, false);
            due.linkError("no stream", x, end, 1);
        }
        InterleavedLink x = Scenes.requested(1);
        x.inject(0, 1, 3, WRONG_INDEX, false);
        due.linkError("IDLE at end 0", x, 0, 1);
    }

    private static void wrongStep(Due due) {
        InterleavedLink x = new InterleavedLink();
        x.inject(1, 1, 1, 7, true);
        due.linkError("a request", x, 1, 9);
        due.is("it stays IDLE", x.state(1, 1), 0);
        due.is("no list", x.field(1, 1, 0, true), -1);
        InterleavedLink y = Scenes.requested(1);
        y.inject(0, 1, 1, 7, true);
        due.linkError("a response", y, 0, 9);
        due.is("it stays OPEN", y.state(0, 1), 1);
        due.is("no list", y.field(0, 1, 0, true), -1);
        InterleavedLink z = new InterleavedLink();
        z.inject(1, 1, 23, 7, true);
        due.linkError("a request on 23", z, 1, 9);
        due.is("the lower ones stay IDLE", z.state(1, 1), 0);
    }

    /** In 3 with RESET 7, 4, 6 and 7 the list is of no use, but the table has it. */
    private static void alwaysGot(Due due) {
        InterleavedLink refused = new InterleavedLink();
        refused.setting(1, 3, 0);
        Scenes.got(refused, 1, 4, 0, 0, true);
        refused.header(0, 9, 5, false);
        refused.request(false);
        due.is("3 with RESET 7", refused.deliver(1), 7);
        due.is("in the table", refused.table(1, true, 0), 5);

        InterleavedLink cut = Scenes.requested(1);
        cut.header(1, 9, 6, false);
        cut.respond(1, false);
        cut.reset(0, 1, 0);
        due.is("4", cut.deliver(0), 0);
        due.is("in the table", cut.table(0, true, 0), 6);
        due.is("no list", cut.field(0, 1, 0, true), -1);

        for (boolean end : new boolean[] {false, true}) {
            InterleavedLink x = Scenes.requested(1);
            Scenes.got(x, 0, 1, 1, 1, end);
            x.header(1, 9, 8, false);
            x.respond(1, false);
            due.is(end ? "6" : "7", x.deliver(0), end ? 5 : 1);
            due.is("in the table", x.table(0, true, 0), 8);
            due.is("the first list stays", x.field(0, 1, 0, true), 0);
        }
    }

    private static void twoBeforeTheRest(Due due) {
        for (int end = 0; end < 2; end++) {
            for (int state = Scenes.OPEN; state <= Scenes.CUT; state++) {
                InterleavedLink x = Scenes.in(state, end);
                x.inject(end, 1, 1, WRONG_INDEX, true);
                due.linkError("in the state " + state, x, end, 9);
            }
        }
        InterleavedLink x = new InterleavedLink();
        Scenes.set(x, 1, 3, 0);
        x.inject(1, 1, 1, WRONG_INDEX, true);
        due.linkError("before RESET 7", x, 1, 9);
    }

    private static void lowerOnes(Due due) {
        for (int number : new int[] {1, 3, 13, 23}) {
            InterleavedLink x = new InterleavedLink();
            due.is("HEADERS on " + number, Scenes.got(x, 1, 1, number, 1), 0);
            for (int stream = 1; stream <= 23; stream += 2) {
                due.is("stream " + stream, x.state(1, stream), stream < number ? 4 : stream == number ? 1 : 0);
            }
        }
        InterleavedLink x = new InterleavedLink();
        Scenes.set(x, 1, 3, 0);
        due.is("refused", Scenes.got(x, 1, 1, 5, 1), 7);
        due.is("lower", x.state(1, 3), 4);
        due.is("higher", x.state(1, 7), 0);
        due.is("BY ITS ENDS, for DATA", Scenes.got(x, 1, 0, 1, 1), 5);
        due.is("BY ITS ENDS, for HEADERS", Scenes.got(x, 1, 1, 3, 1), 105);
    }

    private static void lowerOnesStay(Due due) {
        InterleavedLink x = new InterleavedLink();
        Scenes.got(x, 1, 1, 1, 1);
        Scenes.got(x, 1, 1, 3, 1, true);
        Scenes.got(x, 1, 1, 5, 1);
        Scenes.respond(x, 5, true);
        Scenes.got(x, 1, 1, 7, 1);
        x.reset(1, 7, 0);
        Scenes.got(x, 1, 1, 9, 1);
        int[] states = {1, 3, 2, 4, 1};
        for (int k = 0; k < 5; k++) {
            due.is("stream " + (2 * k + 1), x.state(1, 2 * k + 1), states[k]);
        }
        due.is("CLOSED BY A CUT still", Scenes.got(x, 1, 1, 7, 1), 0);
    }

    private static void asMany(Due due) {
        for (int most : new int[] {0, 1, 2, 11}) {
            InterleavedLink x = new InterleavedLink();
            Scenes.set(x, 1, 3, most);
            for (int k = 0; k < most; k++) {
                due.is("stream " + (2 * k + 1) + " of " + most, Scenes.got(x, 1, 1, 2 * k + 1, 1), 0);
            }
            int number = 2 * most + 1;
            due.is("one more", Scenes.got(x, 1, 1, number, 1), 7);
            due.frame("RESET 7", x, 0, 0, 3, number, 7, 0, 0);
            due.frames("alone", x, 0, 1);
            due.is("up", x.down(1), 0);
            if (most > 0) {
                x.reset(1, 1, 0);
                due.is("one fewer", Scenes.got(x, 1, 1, 23, 1), 0);
            }
        }
    }

    private static void orMore(Due due) {
        InterleavedLink x = Scenes.requested(3);
        Scenes.set(x, 1, 3, 2);
        due.is("3 of 2", Scenes.got(x, 1, 1, 7, 1), 7);
        x.reset(1, 1, 0);
        due.is("2 of 2", Scenes.got(x, 1, 1, 9, 1), 7);
        x.reset(1, 3, 0);
        due.is("1 of 2", Scenes.got(x, 1, 1, 11, 1), 0);
    }

    private static void refusedIsCut(Due due) {
        InterleavedLink x = new InterleavedLink();
        Scenes.set(x, 1, 3, 0);
        due.is("refused", Scenes.got(x, 1, 1, 1, 1, true), 7);
        due.is("CLOSED", x.state(1, 1), 4);
        due.is("no list", x.field(1, 1, 0, true), -1);
        due.is("no window", x.window(1, 1, true), 0);
        due.is("DATA", Scenes.got(x, 1, 0, 1, 3), 0);
        due.is("HEADERS", Scenes.got(x, 1, 1, 1, 1), 0);
        due.is("RESET", Scenes.got(x, 1, 3, 1, 1), 0);
        due.is("WINDOW", Scenes.got(x, 1, 8, 1, 1), 0);
    }

    private static void opens(Due due) {
        for (boolean last : new boolean[] {false, true}) {
            InterleavedLink x = new InterleavedLink();
            due.is("deliver", Scenes.got(x, 1, 1, 1, 5, last), 0);
            due.is("the state", x.state(1, 1), last ? 3 : 1);
            due.is("the name", x.field(1, 1, 0, false), 2);
            due.is("the value", x.field(1, 1, 0, true), 40);
            due.is("the send window", x.window(1, 1, false), 16);
            due.is("the receive window", x.window(1, 1, true), 16);
            due.frames("nothing is sent", x, 0, 0);
        }
    }

    private static void cut(Due due) {
        for (int end = 0; end < 2; end++) {
            InterleavedLink x = Scenes.in(Scenes.CUT, end);
            due.is("HEADERS", Scenes.got(x, end, 1, 1, 5, true), 0);
            due.is("CLOSED", x.state(end, 1), 4);
            due.is("the list that came before", x.field(end, 1, 0, true), 0);
            due.frames("nothing is sent", x, 1 - end, 0);
        }
        InterleavedLink x = Scenes.requested(1);
        x.reset(0, 1, 0);
        due.is("HEADERS", Scenes.got(x, 0, 1, 1, 5), 0);
        due.is("none before, none now", x.field(0, 1, 0, true), -1);
    }

    private static void closed(Due due) {
        for (int end = 0; end < 2; end++) {
            InterleavedLink x = Scenes.in(Scenes.CLOSED, end);
            x.inject(end, 1, 1, 5, true);
            due.linkError("CLOSED BY ITS ENDS", x, end, 5);
            due.is("the list that came before", x.field(end, 1, 0, true), 0);
        }
    }

    private static void halfRemote(Due due) {
        for (int end = 0; end < 2; end++) {
            for (int unread : new int[] {0, 1, 15}) {
                InterleavedLink x = Scenes.in(Scenes.OPEN, end);
                Scenes.got(x, end, 0, 1, unread, true);
                x.inject(end, 1, 1, 5, true);
                due.streamError("HALF REMOTE", x, end, 5, unread);
                due.is("the list that came before", x.field(end, 1, 0, true), 0);
            }
        }
    }

    private static void cameBefore(Due due) {
        for (int end = 0; end < 2; end++) {
            for (int state : new int[] {Scenes.OPEN, Scenes.HALF_LOCAL}) {
                for (int unread : new int[] {0, 1, 15}) {
                    InterleavedLink x = Scenes.in(state, end);
                    Scenes.got(x, end, 0, 1, unread);
                    x.inject(end, 1, 1, 5, true);
                    due.streamError("in the state " + state, x, end, 1, unread);
                    due.is("the list that came before", x.field(end, 1, 0, true), 0);
                }
            }
        }
    }

    private static void response(Due due) {
        for (boolean asked : new boolean[] {false, true}) {
            for (boolean last : new boolean[] {false, true}) {
                InterleavedLink x = new InterleavedLink();
                Scenes.request(x, asked);
                due.is("deliver", Scenes.got(x, 0, 1, 1, 4, last), 0);
                due.is("the name", x.field(0, 1, 0, false), 2);
                due.is("the value", x.field(0, 1, 0, true), 20);
                int state = asked ? Scenes.HALF_LOCAL : Scenes.OPEN;
                due.is("the state", x.state(0, 1), last ? state + 2 : state);
                due.frames("nothing is sent but the request", x, 1, 1);
            }
        }
    }
}
