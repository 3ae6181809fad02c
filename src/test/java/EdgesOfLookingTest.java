/** The edges of promises 12 to 18: frame, state, window, bytes, field, table, down; and of the 512 calls. */
public final class EdgesOfLookingTest {
    public static void main(String[] args) {
        Sentences s = new Sentences();
        s.holds("12: 0 its kind; 1 its stream number", EdgesOfLookingTest::frameKinds);
        s.holds("12: 2 the number of bytes, the number of steps, the code, the value (0 with ACK) or the increment",
                EdgesOfLookingTest::frameAmounts);
        s.holds("12: 3: 1 with END or ACK, else 0", EdgesOfLookingTest::frameFlags);
        s.holds("12: 4 the setting (0 with ACK), else 0", EdgesOfLookingTest::frameSettings);
        s.holds("12: 4 of HEADERS the sum of the indexes and maximums of its steps (wrapping)",
                EdgesOfLookingTest::frameSums);
        s.holds("12: frame number k (0 the oldest); NONE when there is no such frame", EdgesOfLookingTest::frameNumbers);
        s.holds("12: frame number k, when more came than the pipe ever holds", EdgesOfLookingTest::frameRound);
        s.holds("12: NONE when what is not 0 .. 4", EdgesOfLookingTest::frameWhat);
        s.holds("13: NONE when there is no such end or stream", EdgesOfLookingTest::state);
        s.holds("14: of the link for stream 0", EdgesOfLookingTest::windowOfTheLink);
        s.holds("14: 0 when there is no such end or stream", EdgesOfLookingTest::windowOfNone);
        s.holds("14: 0 when it is IDLE or CLOSED there", EdgesOfLookingTest::windowStates);
        s.holds("14: The send window, or with receiving the receive window", EdgesOfLookingTest::windowKinds);
        s.holds("15: How many bytes wait, or with receiving are unread", EdgesOfLookingTest::bytes);
        s.holds("15: NONE when there is no such end or stream", EdgesOfLookingTest::bytesOfNone);
        s.holds("16: its name, or with value its value; NONE when there is no such field", EdgesOfLookingTest::field);
        s.holds("16: NONE when there is no such end or stream", EdgesOfLookingTest::fieldOfNone);
        s.holds("16: Only 3, without RESET 7, and 8 of HEADERS give a stream a header list",
                EdgesOfLookingTest::fieldOnly);
        s.holds("16: it stays when the stream is closed", EdgesOfLookingTest::fieldStays);
        s.holds("17: for k from 0 the value of field number k, 0 when there is none", EdgesOfLookingTest::table);
        s.holds("17: for k = -1 the sum of the sizes; for k = -2 the maximum", EdgesOfLookingTest::tableSums);
        s.holds("17: NONE when there is no such end, or k is below -2", EdgesOfLookingTest::tableOfNone);
        s.holds("18: 0 when the end is up, else the number with which it is down", EdgesOfLookingTest::down);
        s.holds("18: NONE when there is no such end", EdgesOfLookingTest::downOfNone);
        s.holds("An object is used for at most 512 calls: the 512th still answers", EdgesOfLookingTest::lastCall);
        s.finish();
    }

    /** DATA, HEADERS, RESET, SETTINGS, ACK, FAREWELL and WINDOW towards the end, the amounts being 1 to 7. */
    private static InterleavedLink oneOfEach(int end, boolean flag) {
        InterleavedLink x = new InterleavedLink();
        x.inject(end, 0, 11, 1, flag);
        x.inject(end, 1, 13, 2, flag);
        x.inject(end, 3, 15, 3, flag);
        x.inject(end, 4, 17, 4, false);
        x.inject(end, 4, 18, 5, true);
        x.inject(end, 7, 19, 6, flag);
        x.inject(end, 8, 21, 7, flag);
        return x;
    }

    private static void row(Due due, int what, boolean flag, int... want) {
        for (int end = 0; end < 2; end++) {
            InterleavedLink x = oneOfEach(end, flag);
            for (int k = 0; k < want.length; k++) {
                due.is("frame(" + end + ", " + k + ", " + what + ")", x.frame(end, k, what), want[k]);
            }
        }
    }

    private static void frameKinds(Due due) {
        row(due, 0, true, 0, 1, 3, 4, 4, 7, 8, -1);
        row(due, 1, true, 11, 13, 15, 0, 0, 0, 21, -1);
    }

    private static void frameAmounts(Due due) {
        row(due, 2, true, 1, 1, 3, 4, 0, 6, 7, -1);
    }

    private static void frameFlags(Due due) {
        row(due, 3, true, 1, 1, 0, 0, 1, 0, 0, -1);
        row(due, 3, false, 0, 0, 0, 0, 1, 0, 0, -1);
    }

    private static void frameSettings(Due due) {
        row(due, 4, true, 0, 2, 0, 17, 0, 0, 0, -1);
    }

    private static void frameSums(Due due) {
        InterleavedLink x = new InterleavedLink();
        x.setting(1, 1, 50);
        x.setting(1, 1, 200);
        Scenes.settle(x);
        x.header(0, 0, 1, false);
        x.header(0, 2, 9, false);
        x.header(0, 2, 10, true);
        x.header(0, 9, 9, true);
        x.header(0, 9, 9, false);
        x.header(0, 9, 9, false);
        x.request(false);
        due.frame("50, 200, 2, 4, 4, 0, 0, 7", x, 1, 0, 1, 1, 8, 0, 267);
        for (int index : new int[] {Integer.MIN_VALUE, -1, 0, Integer.MAX_VALUE}) {
            InterleavedLink y = new InterleavedLink();
            y.inject(1, 1, 1, index, false);
            due.is("a sum of one", y.frame(1, 0, 4), index);
        }
    }

    private static void frameNumbers(Due due) {
        for (int end = 0; end < 2; end++) {
            InterleavedLink x = new InterleavedLink();
            due.is("an empty pipe", x.frame(end, 0, 0), -1);
            for (int k = 0; k < 30; k++) {
                x.inject(end, 8, 0, 100 + k, false);
            }
            for (int k = 0; k < 30; k++) {
                due.is("frame " + k, x.frame(end, k, 2), 100 + k);
            }
            for (int k : new int[] {-1, 30, 47, 48, 64, Integer.MIN_VALUE, Integer.MAX_VALUE}) {
                for (int what = 0; what <= 4; what++) {
                    due.is("frame " + k, x.frame(end, k, what), -1);
                }
            }
            due.is("the other pipe", x.frame(1 - end, 0, 0), -1);
            for (int none : Scenes.NO_ENDS) {
                due.is("end " + none, x.frame(none, 0, 0), -1);
            }
            x.deliver(end);
            due.is("0 is the oldest", x.frame(end, 0, 2), 101);
            due.is("28 is the newest", x.frame(end, 28, 2), 129);
            due.is("29 is none", x.frame(end, 29, 2), -1);
        }
    }

    /** RESET for a CLOSED stream does nothing, so that its codes can number the frames. */
    private static void frameRound(Due due) {
        for (int end = 0; end < 2; end++) {
            InterleavedLink x = Scenes.in(Scenes.CUT, end);
            int sent = 0;
            for (int got = 1; got <= 70; got++) {
                while (sent < got + 29) {
                    sent++;
                    due.yes("inject", x.inject(end, 3, 1, sent, false));
                }
                due.is("the oldest", x.frame(end, 0, 2), got);
                due.is("the newest", x.frame(end, 29, 2), sent);
                due.is("deliver", x.deliver(end), 0);
            }
        }
    }

    private static void frameWhat(Due due) {
        for (int end = 0; end < 2; end++) {
            InterleavedLink x = oneOfEach(end, true);
            for (int what : new int[] {-1, 5, Integer.MIN_VALUE, Integer.MAX_VALUE}) {
                for (int k = 0; k < 8; k++) {
                    due.is("what " + what, x.frame(end, k, what), -1);
                }
            }
        }
    }

    private static void state(Due due) {
        InterleavedLink x = Scenes.requested(12);
        for (int end : Scenes.NO_ENDS) {
            due.is("end " + end, x.state(end, 1), -1);
        }
        for (int end = 0; end < 2; end++) {
            for (int stream : Scenes.NO_STREAMS) {
                due.is("stream " + stream, x.state(end, stream), -1);
            }
            for (int stream = 1; stream <= 23; stream += 2) {
                due.is("stream " + stream, x.state(end, stream), 1);
            }
        }
        Scenes.fallen(x, 0);
        due.is("it stays when the end is down", x.state(0, 1), 1);
    }

    private static void windowOfTheLink(Due due) {
        for (int end = 0; end < 2; end++) {
            InterleavedLink x = Scenes.responded(1);
            Scenes.got(x, end, 8, 0, 3);
            Scenes.got(x, end, 0, 1, 4);
            due.is("the send window", x.window(end, 0, false), 43);
            due.is("the receive window", x.window(end, 0, true), 36);
            due.is("those of the other end", x.window(1 - end, 0, false), 40);
            due.is("those of the other end", x.window(1 - end, 0, true), 40);
            Scenes.fallen(x, end);
            due.is("of an end that is down", x.window(end, 0, false), 43);
            due.is("of an end that is down", x.window(end, 0, true), 36);
        }
    }

    private static void windowOfNone(Due due) {
        InterleavedLink x = Scenes.requested(12);
        for (boolean receiving : new boolean[] {false, true}) {
            for (int end : Scenes.NO_ENDS) {
                due.is("the link at end " + end, x.window(end, 0, receiving), 0);
                due.is("a stream at end " + end, x.window(end, 1, receiving), 0);
            }
            for (int end = 0; end < 2; end++) {
                for (int stream : Scenes.NO_STREAMS) {
                    due.is("stream " + stream, x.window(end, stream, receiving), stream == 0 ? 40 : 0);
                }
                due.is("stream 1", x.window(end, 1, receiving), 16);
                due.is("stream 23", x.window(end, 23, receiving), 16);
            }
        }
    }

    private static void windowStates(Due due) {
        for (int end = 0; end < 2; end++) {
            for (int state = Scenes.IDLE; state <= Scenes.CUT; state++) {
                InterleavedLink x = Scenes.in(state, end);
                boolean has = state >= Scenes.OPEN && state <= Scenes.HALF_REMOTE;
                due.is("the send window in " + state, x.window(end, 1, false), has ? 16 : 0);
                due.is("the receive window in " + state, x.window(end, 1, true), has ? 16 : 0);
            }
        }
    }

    private static void windowKinds(Due due) {
        for (int end = 0; end < 2; end++) {
            InterleavedLink x = Scenes.responded(1);
            Scenes.got(x, end, 8, 1, 3);
            Scenes.got(x, end, 0, 1, 4);
            due.is("the send window", x.window(end, 1, false), 19);
            due.is("the receive window", x.window(end, 1, true), 12);
            Scenes.fallen(x, end);
            due.is("of an end that is down", x.window(end, 1, false), 19);
            due.is("of an end that is down", x.window(end, 1, true), 12);
        }
    }

    private static void bytes(Due due) {
        for (int end = 0; end < 2; end++) {
            InterleavedLink x = Scenes.responded(1);
            due.is("none waits", x.bytes(end, 1, false), 0);
            due.is("none is unread", x.bytes(end, 1, true), 0);
            for (int k = 1; k <= 4; k++) {
                x.write(end, 1, 0, 8, false);
                due.is("they wait", x.bytes(end, 1, false), 8 * k);
            }
            Scenes.got(x, end, 0, 1, 15);
            Scenes.got(x, end, 0, 1, 1);
            due.is("16 are unread", x.bytes(end, 1, true), 16);
            due.is("32 wait", x.bytes(end, 1, false), 32);
            x.pump(end, 1);
            due.is("24 wait", x.bytes(end, 1, false), 24);
            due.is("not yet unread there", x.bytes(1 - end, 1, true), 0);
            x.read(end, 1, 7);
            due.is("9 are unread", x.bytes(end, 1, true), 9);
            Scenes.fallen(x, end);
            due.is("unread at an end that is down", x.bytes(end, 1, true), 9);
            due.is("waiting at an end that is down", x.bytes(end, 1, false), 24);
        }
        for (int end = 0; end < 2; end++) {
            for (int state = Scenes.IDLE; state <= Scenes.CUT; state++) {
                due.is("none in " + state, Scenes.in(state, end).bytes(end, 1, false), 0);
                due.is("none in " + state, Scenes.in(state, end).bytes(end, 1, true), 0);
            }
        }
    }

    private static void bytesOfNone(Due due) {
        InterleavedLink x = Scenes.requested(12);
        for (boolean receiving : new boolean[] {false, true}) {
            for (int end : Scenes.NO_ENDS) {
                due.is("end " + end, x.bytes(end, 1, receiving), -1);
            }
            for (int end = 0; end < 2; end++) {
                for (int stream : Scenes.NO_STREAMS) {
                    due.is("stream " + stream, x.bytes(end, stream, receiving), -1);
                }
                due.is("stream 1", x.bytes(end, 1, receiving), 0);
                due.is("stream 23", x.bytes(end, 23, receiving), 0);
            }
        }
    }

    private static InterleavedLink listed(int fields) {
        InterleavedLink x = new InterleavedLink();
        for (int k = 0; k < fields; k++) {
            x.header(0, 10 + k, 70 + k, false);
        }
        x.request(false);
        x.deliver(1);
        return x;
    }

    private static void field(Due due) {
        for (int fields : new int[] {1, 2, 6}) {
            InterleavedLink x = listed(fields);
            for (int k = 0; k < fields; k++) {
                due.is("name " + k, x.field(1, 1, k, false), 10 + k);
                due.is("value " + k, x.field(1, 1, k, true), 70 + k);
            }
            for (int k : new int[] {-1, fields, 6, 7, Integer.MIN_VALUE, Integer.MAX_VALUE}) {
                due.is("name " + k, x.field(1, 1, k, false), -1);
                due.is("value " + k, x.field(1, 1, k, true), -1);
            }
        }
    }

    private static void fieldOfNone(Due due) {
        InterleavedLink x = listed(1);
        for (boolean value : new boolean[] {false, true}) {
            for (int end : Scenes.NO_ENDS) {
                due.is("end " + end, x.field(end, 1, 0, value), -1);
            }
            for (int stream : Scenes.NO_STREAMS) {
                due.is("stream " + stream, x.field(1, stream, 0, value), -1);
            }
            due.is("no list came", x.field(1, 3, 0, value), -1);
            due.is("none to end 0", x.field(0, 1, 0, value), -1);
        }
    }

    private static void fieldOnly(Due due) {
        InterleavedLink refused = new InterleavedLink();
        Scenes.set(refused, 1, 3, 0);
        due.is("3 with RESET 7", Scenes.got(refused, 1, 1, 1, 4), 7);
        due.is("no list", refused.field(1, 1, 0, true), -1);
        InterleavedLink wrong = new InterleavedLink();
        due.is("2", Scenes.got(wrong, 1, 1, 1, 7), 109);
        due.is("no list", wrong.field(1, 1, 0, true), -1);
        InterleavedLink below = new InterleavedLink();
        Scenes.got(below, 1, 1, 3, 4);
        due.is("3: a list", below.field(1, 3, 0, true), 20);
        due.is("no list for those below", below.field(1, 1, 0, true), -1);
        InterleavedLink cut = Scenes.requested(1);
        cut.reset(0, 1, 0);
        due.is("4", Scenes.got(cut, 0, 1, 1, 4), 0);
        due.is("no list", cut.field(0, 1, 0, true), -1);
        int[][] rows = {{Scenes.CLOSED, 105}, {Scenes.HALF_REMOTE, 5}, {Scenes.OPEN, 1}, {Scenes.HALF_LOCAL, 1},
            {Scenes.CUT, 0}};
        for (int end = 0; end < 2; end++) {
            for (int[] row : rows) {
                InterleavedLink x = Scenes.in(row[0], end);
                due.is("4 to 7", Scenes.got(x, end, 1, 1, 4), row[1]);
                due.is("the first list stays", x.field(end, 1, 0, true), 0);
            }
        }
        InterleavedLink answered = Scenes.requested(1);
        Scenes.got(answered, 0, 1, 1, 4);
        due.is("8", answered.field(0, 1, 0, true), 20);
    }

    private static void fieldStays(Due due) {
        for (int end = 0; end < 2; end++) {
            for (int state = Scenes.OPEN; state <= Scenes.CUT; state++) {
                InterleavedLink x = Scenes.in(state, end);
                due.is("the name in " + state, x.field(end, 1, 0, false), 1);
                due.is("the value in " + state, x.field(end, 1, 0, true), 0);
                due.is("no more", x.field(end, 1, 1, true), -1);
            }
            InterleavedLink x = Scenes.fallen(Scenes.responded(1), end);
            due.is("and when the end is down", x.field(end, 1, 0, false), 1);
        }
    }

    private static InterleavedLink tabled() {
        InterleavedLink x = new InterleavedLink();
        Scenes.set(x, 1, 1, 200);
        for (int k = 1; k <= 5; k++) {
            x.header(0, 9, -k, false);
        }
        x.request(false);
        x.deliver(1);
        return x;
    }

    private static void table(Due due) {
        InterleavedLink x = tabled();
        for (int k = 0; k < 5; k++) {
            due.is("sent, field " + k, x.table(0, false, k), k - 5);
            due.is("got, field " + k, x.table(1, true, k), k - 5);
        }
        for (int k : new int[] {5, 6, 7, 100, Integer.MAX_VALUE}) {
            due.is("sent, field " + k, x.table(0, false, k), 0);
            due.is("got, field " + k, x.table(1, true, k), 0);
        }
        due.is("the other table of end 0", x.table(0, true, 0), 0);
        due.is("the other table of end 1", x.table(1, false, 0), 0);
        InterleavedLink y = listed(3);
        due.is("one that was dropped is none", y.table(1, true, 2), 0);
        due.is("the oldest there is", y.table(1, true, 1), 71);
    }

    private static void tableSums(Due due) {
        InterleavedLink x = tabled();
        due.is("the sum sent", x.table(0, false, -1), 5 * 37);
        due.is("the sum got", x.table(1, true, -1), 5 * 37);
        due.is("the maximum sent", x.table(0, false, -2), 200);
        due.is("the maximum got", x.table(1, true, -2), 200);
        due.is("the sum of an empty one", x.table(0, true, -1), 0);
        due.is("its maximum", x.table(0, true, -2), 100);
        Scenes.fallen(x, 1);
        due.is("at an end that is down", x.table(1, true, -1), 185);
    }

    private static void tableOfNone(Due due) {
        InterleavedLink x = tabled();
        for (boolean getting : new boolean[] {false, true}) {
            for (int k : new int[] {-2, -1, 0, 9}) {
                for (int end : Scenes.NO_ENDS) {
                    due.is("end " + end, x.table(end, getting, k), -1);
                }
            }
            for (int end = 0; end < 2; end++) {
                for (int k : new int[] {-3, -4, Integer.MIN_VALUE}) {
                    due.is("k " + k, x.table(end, getting, k), -1);
                }
            }
        }
    }

    private static void down(Due due) {
        for (int end = 0; end < 2; end++) {
            int[][] rows = {{8, 0, 0, 101}, {8, 0, 161, 103}, {1, 1, 99, 109}, {7, 0, 0, 200}, {7, 0, 15, 215}};
            for (int[] row : rows) {
                InterleavedLink x = Scenes.responded(1);
                due.is("up", x.down(end), 0);
                Scenes.got(x, end, row[0], row[1], row[2]);
                due.is("down", x.down(end), row[3]);
                due.is("the other is up", x.down(1 - end), 0);
            }
            InterleavedLink x = Scenes.in(Scenes.CLOSED, end);
            Scenes.got(x, end, 1, 1, 1);
            due.is("down", x.down(end), 105);
        }
    }

    private static void downOfNone(Due due) {
        InterleavedLink x = Scenes.fallen(new InterleavedLink(), 0);
        for (int end : Scenes.NO_ENDS) {
            due.is("end " + end, x.down(end), -1);
        }
    }

    /** 3 calls, 84 rounds of 6, and 5 more; then 255 rounds of 2, and 2 more. */
    private static void lastCall(Due due) {
        InterleavedLink x = new InterleavedLink();
        due.is("call 1", x.header(0, 1, 0, false), 1);
        due.is("call 2", x.request(false), 1);
        due.is("call 3", x.deliver(1), 0);
        for (int round = 0; round < 84; round++) {
            due.is("write", x.write(0, 1, round, 7, false), 7);
            due.is("pump", x.pump(0, 8), 1);
            due.is("deliver", x.deliver(1), 0);
            due.is("read", x.read(1, 1, 7), round);
            due.is("WINDOW for the link", x.deliver(0), 0);
            due.is("WINDOW for the stream", x.deliver(0), 0);
        }
        due.is("call 508", x.write(0, 1, 0x7FL, 8, true), 8);
        due.is("call 509", x.pump(0, 1), 1);
        due.is("call 510", x.deliver(1), 0);
        due.is("call 511", x.read(1, 1, 7), 0x7FL);
        due.is("call 512", x.state(1, 1), 3);
        InterleavedLink y = new InterleavedLink();
        for (int round = 0; round < 255; round++) {
            due.yes("inject", y.inject(1, 7, 0, 15, false));
            due.is("deliver", y.deliver(1), 0);
        }
        due.is("call 511", y.down(1), 215);
        due.is("call 512", y.deliver(1), -1);
    }
}
