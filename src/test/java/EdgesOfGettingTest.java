/** The edges of promises 7 to 11: read, reset, setting, deliver, inject. */
public final class EdgesOfGettingTest {
    public static void main(String[] args) {
        Sentences s = new Sentences();
        s.holds("7: Takes the first n unread bytes of the stream, or all if there are fewer", EdgesOfGettingTest::readN);
        s.holds("7: the first one is the lowest 8 bits of the answer; the rest is 0", EdgesOfGettingTest::readBits);
        s.holds("7: They are given back", EdgesOfGettingTest::readGivesBack);
        s.holds("7: when some were taken and the stream is OPEN or HALF LOCAL: WINDOW for it, behind that for the link",
                EdgesOfGettingTest::readStreamWindow);
        s.holds("7: NONE when the end is not 0 or 1 or is down", EdgesOfGettingTest::readEnd);
        s.holds("7: NONE when the stream is none or IDLE there", EdgesOfGettingTest::readStream);
        s.holds("7: NONE when n is not 1 .. 7", EdgesOfGettingTest::readWrongN);
        s.holds("7: FULL for the end", EdgesOfGettingTest::readFull);
        s.holds("8: The end sends RESET with the code, the stream is cut, the unread bytes dropped are given back",
                EdgesOfGettingTest::reset);
        s.holds("8: False when the end is not 0 or 1 or is down", EdgesOfGettingTest::resetEnd);
        s.holds("8: False when the stream is not ACTIVE there (or no stream)", EdgesOfGettingTest::resetStream);
        s.holds("8: False when the code is not 0 .. 15", EdgesOfGettingTest::resetCode);
        s.holds("8: False when FULL holds for the end", EdgesOfGettingTest::resetFull);
        s.holds("9: The end sends SETTINGS.", EdgesOfGettingTest::setting);
        s.holds("9: False when the end is not 0 or 1 or is down", EdgesOfGettingTest::settingEnd);
        s.holds("9: False when setting is not 1, 3 or 4", EdgesOfGettingTest::settingKind);
        s.holds("9: False when the value is out of its range", EdgesOfGettingTest::settingValue);
        s.holds("9: False when 8 SETTINGS of this end are without ACK", EdgesOfGettingTest::settingPending);
        s.holds("9: False when FULL holds for the end", EdgesOfGettingTest::settingFull);
        s.holds("10: The oldest frame of the pipe towards the end is taken out of it", EdgesOfGettingTest::deliverOldest);
        s.holds("10: Answers 0, c for a stream error c, 7 for the RESET 7, 100 + c for a link error c",
                EdgesOfGettingTest::deliverAnswers);
        s.holds("10: NONE when the end is not 0 or 1", EdgesOfGettingTest::deliverEnd);
        s.holds("10: NONE when the pipe is empty", EdgesOfGettingTest::deliverEmpty);
        s.holds("10: FULL when the pipe towards the other end has 40 frames or more", EdgesOfGettingTest::deliverFull);
        s.holds("10: FULL only when the end is not down", EdgesOfGettingTest::deliverFullDown);
        s.holds("10: at 39 frames both frames of a stream error still go", EdgesOfGettingTest::deliverMost);
        s.holds("11: behind those in the pipe towards the end", EdgesOfGettingTest::injectBehind);
        s.holds("11: (which may be down, and so may the other)", EdgesOfGettingTest::injectDown);
        s.holds("11: DATA with x bytes, all 0 (x from 0 to 15), with END if flag says so", EdgesOfGettingTest::injectData);
        s.holds("11: HEADERS with the one step INDEXED x, END likewise", EdgesOfGettingTest::injectHeaders);
        s.holds("11: RESET x; WINDOW x; any int", EdgesOfGettingTest::injectResetAndWindow);
        s.holds("11: SETTINGS with the setting stream and the value x, or with ACK", EdgesOfGettingTest::injectSettings);
        s.holds("11: FAREWELL x (its stream number is 0)", EdgesOfGettingTest::injectFarewell);
        s.holds("11: False when the end is not 0 or 1", EdgesOfGettingTest::injectEnd);
        s.holds("11: False when kind is none of 0, 1, 3, 4, 7, 8", EdgesOfGettingTest::injectKind);
        s.holds("11: False when x is not 0 .. 15 for DATA or FAREWELL", EdgesOfGettingTest::injectX);
        s.holds("11: False when the pipe has 30 frames or more", EdgesOfGettingTest::injectFull);
        s.finish();
    }

    /** A link on which the end has up to 16 unread bytes 0x81, 0x82, .. on stream 1; both pipes are empty. */
    private static InterleavedLink unread(int end, int bytes) {
        InterleavedLink x = Scenes.responded(1);
        long next = 0x8887868584838281L;
        for (int left = bytes; left > 0; left -= 8) {
            x.write(1 - end, 1, next, Math.min(left, 8), false);
            next += 0x0808080808080808L;
        }
        x.pump(1 - end, 8);
        Scenes.drain(x, end);
        return x;
    }

    private static InterleavedLink filled(InterleavedLink x, int end, int frames) {
        if (frames <= 30) {
            Scenes.fill(x, end, frames);
        } else {
            Scenes.overfill(x, end, frames);
        }
        return x;
    }

    private static InterleavedLink down(InterleavedLink x, int end, boolean byError) {
        Scenes.got(x, end, byError ? 3 : 7, 0, 0);
        return x;
    }

    private static void readN(Due due) {
        for (int end = 0; end < 2; end++) {
            for (int n = 1; n <= 7; n++) {
                for (int bytes : new int[] {0, 1, n - 1, n, n + 1, 16}) {
                    InterleavedLink x = unread(end, bytes);
                    due.is(bytes + " are unread", x.bytes(end, 1, true), bytes);
                    long all = 0x87868584838281L;
                    int taken = Math.min(n, bytes);
                    long want = taken == 0 ? 0 : all & (-1L >>> 64 - 8 * taken);
                    due.is("read " + n + " of " + bytes, x.read(end, 1, n), want);
                    due.is("the rest", x.bytes(end, 1, true), bytes - taken);
                }
            }
        }
    }

    private static void readBits(Due due) {
        InterleavedLink x = Scenes.responded(1);
        x.write(0, 1, 0xFF00FFFFFFFFFFFFL, 8, false);
        x.write(0, 1, 0x80, 1, false);
        x.pump(0, 8);
        Scenes.drain(x, 1);
        due.is("one byte", x.read(1, 1, 1), 0xFF);
        due.is("seven, the highest one 0xFF", x.read(1, 1, 7), 0xFF00FFFFFFFFFFL);
        due.is("the rest is 0", x.read(1, 1, 7), 0x80);
        x.write(0, 1, 0xFFFFFFFFFFFFFFL, 7, false);
        x.pump(0, 8);
        x.deliver(1);
        due.is("no answer looks like a refusal", x.read(1, 1, 7), 0xFFFFFFFFFFFFFFL);
    }

    private static void readGivesBack(Due due) {
        for (int end = 0; end < 2; end++) {
            for (int n : new int[] {1, 6, 7}) {
                InterleavedLink x = unread(end, 6);
                due.is("before", x.window(end, 0, true), 34);
                x.read(end, 1, n);
                int taken = Math.min(n, 6);
                due.is("given back", x.window(end, 0, true), 34 + taken);
                due.frame("WINDOW", x, 1 - end, 0, 8, 0, taken, 0, 0);
            }
            InterleavedLink x = Scenes.responded(1);
            due.is("nothing to take", x.read(end, 1, 7), 0);
            due.frames("nothing is sent", x, 1 - end, 0);
        }
    }

    private static void readStreamWindow(Due due) {
        for (int end = 0; end < 2; end++) {
            for (int state = Scenes.OPEN; state <= Scenes.CLOSED; state++) {
                InterleavedLink x = unread(end, 6);
                if (state == Scenes.HALF_LOCAL || state == Scenes.CLOSED) {
                    Scenes.sendEnd(x, end, 1);
                }
                if (state == Scenes.HALF_REMOTE || state == Scenes.CLOSED) {
                    Scenes.got(x, end, 0, 1, 0, true);
                }
                due.is("the state", x.state(end, 1), state);
                boolean both = state == Scenes.OPEN || state == Scenes.HALF_LOCAL;
                due.is("read", x.read(end, 1, 4), 0x84838281L);
                due.frame("for the link", x, 1 - end, 0, 8, 0, 4, 0, 0);
                if (both) {
                    due.frame("for the stream", x, 1 - end, 1, 8, 1, 4, 0, 0);
                }
                due.frames("in the state " + state, x, 1 - end, both ? 2 : 1);
                due.is("its receive window", x.window(end, 1, true), state == 4 ? 0 : both ? 14 : 10);
            }
            InterleavedLink fewer = unread(end, 6);
            fewer.read(end, 1, 7);
            due.frame("as many as were taken", fewer, 1 - end, 1, 8, 1, 6, 0, 0);
            due.is("as many as were taken", fewer.window(end, 1, true), 16);
            InterleavedLink x = Scenes.responded(1);
            x.read(end, 1, 1);
            due.is("none was taken", x.window(end, 1, true), 16);
            due.frames("none was taken", x, 1 - end, 0);
            due.is("cut: nothing is unread", Scenes.in(Scenes.CUT, end).read(end, 1, 7), 0);
        }
    }

    private static void readEnd(Due due) {
        for (int end : Scenes.NO_ENDS) {
            Twins.refused(due, "end " + end, () -> unread(0, 3), x -> x.read(end, 1, 1), -1);
        }
        for (int end = 0; end < 2; end++) {
            int here = end;
            Twins.refused(due, "by an error", () -> down(unread(here, 3), here, true), x -> x.read(here, 1, 1), -1);
            Twins.refused(due, "by FAREWELL", () -> down(unread(here, 3), here, false), x -> x.read(here, 1, 1), -1);
            due.is("the other end may be down", down(unread(here, 3), 1 - here, true).read(here, 1, 1), 0x81);
        }
    }

    private static void readStream(Due due) {
        for (int end = 0; end < 2; end++) {
            int here = end;
            for (int stream : Scenes.NO_STREAMS) {
                Twins.refused(due, "stream " + stream, () -> unread(here, 3), x -> x.read(here, stream, 1), -1);
            }
            Twins.refused(due, "IDLE", () -> unread(here, 3), x -> x.read(here, 3, 1), -1);
            for (int state = Scenes.OPEN; state <= Scenes.CUT; state++) {
                due.is("in the state " + state, Scenes.in(state, here).read(here, 1, 1), 0);
            }
            due.is("stream 23", Scenes.requested(12).read(here, 23, 1), 0);
        }
    }

    private static void readWrongN(Due due) {
        for (int end = 0; end < 2; end++) {
            int here = end;
            for (int n : new int[] {0, -1, 8, Integer.MIN_VALUE, Integer.MAX_VALUE}) {
                Twins.refused(due, "n " + n, () -> unread(here, 9), x -> x.read(here, 1, n), -1);
            }
            due.is("n 1", unread(here, 9).read(here, 1, 1), 0x81);
            due.is("n 7", unread(here, 9).read(here, 1, 7), 0x87868584838281L);
        }
    }

    private static void readFull(Due due) {
        for (int end = 0; end < 2; end++) {
            int here = end;
            InterleavedLink x = filled(unread(here, 9), 1 - here, 29);
            due.is("29 frames", x.read(here, 1, 1), 0x81);
            due.frames("two more", x, 1 - here, 31);
            for (int frames : new int[] {30, 31, 40}) {
                Twins.refused(due, frames + " frames", () -> filled(unread(here, 9), 1 - here, frames),
                        y -> y.read(here, 1, 1), -2);
            }
            Twins.refused(due, "with nothing to read", () -> filled(Scenes.responded(1), 1 - here, 30),
                    y -> y.read(here, 1, 1), -2);
            due.is("the pipe towards itself", filled(unread(here, 9), here, 30).read(here, 1, 1), 0x81);
        }
    }

    private static void reset(Due due) {
        for (int end = 0; end < 2; end++) {
            for (int bytes : new int[] {0, 1, 16}) {
                InterleavedLink x = unread(end, bytes);
                x.write(end, 1, 0, 5, true);
                due.yes("reset", x.reset(end, 1, 11));
                due.frame("RESET", x, 1 - end, 0, 3, 1, 11, 0, 0);
                if (bytes > 0) {
                    due.frame("given back", x, 1 - end, 1, 8, 0, bytes, 0, 0);
                }
                due.frames("no more", x, 1 - end, bytes > 0 ? 2 : 1);
                due.is("CLOSED", x.state(end, 1), 4);
                due.is("the window of the link", x.window(end, 0, true), 40);
                due.is("none unread", x.bytes(end, 1, true), 0);
                due.is("none waits", x.bytes(end, 1, false), 0);
                due.is("nothing to send", x.pump(end, 8), 0);
            }
        }
    }

    private static void resetEnd(Due due) {
        for (int end : Scenes.NO_ENDS) {
            Twins.refused(due, "end " + end, () -> unread(0, 3), x -> x.reset(end, 1, 1) ? 1 : 0, 0);
        }
        for (int end = 0; end < 2; end++) {
            int here = end;
            for (boolean byError : new boolean[] {true, false}) {
                Twins.refused(due, "down", () -> down(unread(here, 3), here, byError),
                        x -> x.reset(here, 1, 1) ? 1 : 0, 0);
            }
            due.yes("the other end may be down", down(unread(here, 3), 1 - here, true).reset(here, 1, 1));
        }
    }

    private static void resetStream(Due due) {
        for (int end = 0; end < 2; end++) {
            int here = end;
            for (int state : new int[] {Scenes.OPEN, Scenes.HALF_LOCAL, Scenes.HALF_REMOTE}) {
                due.yes("in the state " + state, Scenes.in(state, here).reset(here, 1, 1));
            }
            for (int state : new int[] {Scenes.IDLE, Scenes.CLOSED, Scenes.CUT}) {
                Twins.refused(due, "in the state " + state, () -> Scenes.in(state, here),
                        x -> x.reset(here, 1, 1) ? 1 : 0, 0);
            }
            for (int stream : Scenes.NO_STREAMS) {
                Twins.refused(due, "stream " + stream, () -> Scenes.responded(12),
                        x -> x.reset(here, stream, 1) ? 1 : 0, 0);
            }
            due.yes("stream 23", Scenes.requested(12).reset(here, 23, 1));
        }
    }

    private static void resetCode(Due due) {
        for (int end = 0; end < 2; end++) {
            int here = end;
            for (int code : new int[] {-1, 16, Integer.MIN_VALUE, Integer.MAX_VALUE}) {
                Twins.refused(due, "code " + code, () -> unread(here, 3), x -> x.reset(here, 1, code) ? 1 : 0, 0);
            }
            for (int code : new int[] {0, 15}) {
                InterleavedLink x = unread(here, 3);
                due.yes("code " + code, x.reset(here, 1, code));
                due.is("code " + code, x.frame(1 - here, 0, 2), code);
            }
        }
    }

    private static void resetFull(Due due) {
        for (int end = 0; end < 2; end++) {
            int here = end;
            InterleavedLink x = filled(unread(here, 3), 1 - here, 29);
            due.yes("29 frames", x.reset(here, 1, 1));
            due.frames("two more", x, 1 - here, 31);
            for (int frames : new int[] {30, 31, 40}) {
                Twins.refused(due, frames + " frames", () -> filled(unread(here, 3), 1 - here, frames),
                        y -> y.reset(here, 1, 1) ? 1 : 0, 0);
            }
            due.yes("the pipe towards itself", filled(unread(here, 3), here, 30).reset(here, 1, 1));
        }
    }

    private static void setting(Due due) {
        for (int end = 0; end < 2; end++) {
            for (int setting : new int[] {1, 3, 4}) {
                InterleavedLink x = Scenes.requested(1);
                due.yes("setting", x.setting(end, setting, 7));
                due.frame("SETTINGS", x, 1 - end, 0, 4, 0, 7, 0, setting);
                due.frames("no more", x, 1 - end, 1);
                due.is("nothing told yet", x.window(1 - end, 1, false), 16);
                due.is("nothing in force yet", x.window(end, 1, true), 16);
            }
        }
    }

    private static void settingEnd(Due due) {
        for (int end : Scenes.NO_ENDS) {
            Twins.refused(due, "end " + end, () -> Scenes.responded(1), x -> x.setting(end, 4, 1) ? 1 : 0, 0);
        }
        for (int end = 0; end < 2; end++) {
            int here = end;
            for (boolean byError : new boolean[] {true, false}) {
                Twins.refused(due, "down", () -> down(Scenes.responded(1), here, byError),
                        x -> x.setting(here, 4, 1) ? 1 : 0, 0);
            }
            due.yes("the other end may be down", down(Scenes.responded(1), 1 - here, true).setting(here, 4, 1));
        }
    }

    private static void settingKind(Due due) {
        for (int end = 0; end < 2; end++) {
            int here = end;
            for (int setting : new int[] {0, 2, 5, -1, Integer.MIN_VALUE, Integer.MAX_VALUE}) {
                Twins.refused(due, "setting " + setting, () -> Scenes.responded(1),
                        x -> x.setting(here, setting, 1) ? 1 : 0, 0);
            }
        }
    }

    private static void settingValue(Due due) {
        int[][] tops = {{1, 200}, {3, 12}, {4, 64}};
        for (int end = 0; end < 2; end++) {
            int here = end;
            for (int[] top : tops) {
                for (int value : new int[] {-1, top[1] + 1, Integer.MIN_VALUE, Integer.MAX_VALUE}) {
                    Twins.refused(due, top[0] + " with " + value, () -> Scenes.responded(1),
                            x -> x.setting(here, top[0], value) ? 1 : 0, 0);
                }
                for (int value : new int[] {0, top[1]}) {
                    InterleavedLink x = Scenes.responded(1);
                    due.yes(top[0] + " with " + value, x.setting(here, top[0], value));
                    due.is("the value", x.frame(1 - here, 0, 2), value);
                }
            }
        }
    }

    private static InterleavedLink pending(int end, int count) {
        InterleavedLink x = Scenes.requested(1);
        for (int k = 0; k < count; k++) {
            x.setting(end, 4, 30 + k);
        }
        return x;
    }

    private static void settingPending(Due due) {
        for (int end = 0; end < 2; end++) {
            int here = end;
            due.yes("7 are without ACK", pending(here, 7).setting(here, 4, 1));
            Twins.refused(due, "8 are without ACK", () -> pending(here, 8), x -> x.setting(here, 4, 1) ? 1 : 0, 0);
            Twins.Scene delivered = () -> {
                InterleavedLink x = pending(here, 8);
                Scenes.drain(x, 1 - here);
                return x;
            };
            Twins.refused(due, "their ACKs are on the way", delivered, x -> x.setting(here, 4, 1) ? 1 : 0, 0);
            InterleavedLink x = delivered.make();
            x.deliver(here);
            due.yes("one ACK came", x.setting(here, 4, 1));
            due.no("8 again", x.setting(here, 4, 1));
            due.yes("those of the other end do not count", pending(here, 8).setting(1 - here, 4, 1));
        }
    }

    private static void settingFull(Due due) {
        for (int end = 0; end < 2; end++) {
            int here = end;
            due.yes("29 frames", filled(Scenes.responded(1), 1 - here, 29).setting(here, 4, 1));
            for (int frames : new int[] {30, 31, 40}) {
                Twins.refused(due, frames + " frames", () -> filled(Scenes.responded(1), 1 - here, frames),
                        y -> y.setting(here, 4, 1) ? 1 : 0, 0);
            }
            due.yes("the pipe towards itself", filled(Scenes.responded(1), here, 30).setting(here, 4, 1));
        }
    }

    private static void deliverOldest(Due due) {
        for (int end = 0; end < 2; end++) {
            InterleavedLink x = new InterleavedLink();
            for (int k = 1; k <= 5; k++) {
                x.inject(end, 8, 0, k, false);
                x.inject(1 - end, 8, 0, 10 + k, false);
            }
            int window = 40;
            for (int k = 1; k <= 5; k++) {
                due.is("deliver", x.deliver(end), 0);
                window += k;
                due.is("the oldest", x.window(end, 0, false), window);
                due.is("the next", x.frame(end, 0, 2), k == 5 ? -1 : k + 1);
            }
            due.frames("the other pipe stays", x, 1 - end, 5);
            due.is("the other end got nothing", x.window(1 - end, 0, false), 40);
        }
    }

    private static void deliverAnswers(Due due) {
        int[][] rows = {{8, 0, 1, 0}, {8, 1, 1, 0}, {0, 1, 1, 0}, {3, 1, 1, 0}, {4, 9, 1, 0}, {7, 0, 1, 0}, {7, 0, 15, 0},
            {8, 1, 0, 1}, {8, 1, 185, 3}, {1, 1, 1, 1}, {8, 0, 0, 101}, {8, 0, 161, 103}, {3, 2, 1, 101},
            {1, 1, 99, 109}, {4, 4, 65, 103}};
        for (int end = 0; end < 2; end++) {
            for (int[] row : rows) {
                InterleavedLink x = Scenes.responded(1);
                due.is("kind " + row[0], Scenes.got(x, end, row[0], row[1], row[2]), row[3]);
            }
            due.is("5", Scenes.got(Scenes.in(Scenes.HALF_REMOTE, end), end, 0, 1, 1), 5);
            due.is("105", Scenes.got(Scenes.in(Scenes.CLOSED, end), end, 1, 1, 1), 105);
            due.is("0 of a down end", Scenes.got(down(Scenes.responded(1), end, true), end, 8, 0, 0), 0);
        }
        InterleavedLink x = new InterleavedLink();
        Scenes.set(x, 1, 3, 0);
        due.is("7", Scenes.got(x, 1, 1, 1, 1), 7);
    }

    private static void deliverEnd(Due due) {
        Twins.Scene scene = () -> {
            InterleavedLink x = Scenes.responded(1);
            x.inject(0, 8, 0, 1, false);
            x.inject(1, 8, 0, 1, false);
            return x;
        };
        for (int end : Scenes.NO_ENDS) {
            Twins.refused(due, "end " + end, scene, x -> x.deliver(end), -1);
        }
    }

    private static void deliverEmpty(Due due) {
        for (int end = 0; end < 2; end++) {
            int here = end;
            Twins.refused(due, "empty", () -> Scenes.responded(1), x -> x.deliver(here), -1);
            Twins.refused(due, "empty, the other is not", () -> filled(Scenes.responded(1), 1 - here, 3),
                    x -> x.deliver(here), -1);
            Twins.refused(due, "empty, and down", () -> down(Scenes.responded(1), here, false),
                    x -> x.deliver(here), -1);
            Twins.refused(due, "NONE before FULL", () -> filled(Scenes.responded(1), 1 - here, 40),
                    x -> x.deliver(here), -1);
            InterleavedLink x = filled(Scenes.responded(1), here, 1);
            due.is("one frame", x.deliver(here), 0);
            due.is("empty now", x.deliver(here), -1);
        }
    }

    private static InterleavedLink gettingOne(int end, int framesTowardsOther) {
        InterleavedLink x = filled(Scenes.responded(1), 1 - end, framesTowardsOther);
        x.inject(end, 8, 0, 5, false);
        return x;
    }

    private static void deliverFull(Due due) {
        for (int end = 0; end < 2; end++) {
            int here = end;
            for (int frames : new int[] {30, 38, 39}) {
                InterleavedLink x = gettingOne(here, frames);
                due.is(frames + " frames", x.deliver(here), 0);
                due.is("got", x.window(here, 0, false), 45);
            }
            Twins.refused(due, "40 frames", () -> gettingOne(here, 40), x -> x.deliver(here), -2);
            Twins.Scene more = () -> {
                InterleavedLink x = filled(Scenes.responded(1), 1 - here, 39);
                Scenes.got(x, here, 0, 1, 1);
                Scenes.got(x, here, 8, 1, 0);
                x.inject(here, 8, 0, 5, false);
                return x;
            };
            due.frames("41 frames", more.make(), 1 - here, 41);
            Twins.refused(due, "41 frames", more, x -> x.deliver(here), -2);
            InterleavedLink x = gettingOne(here, 40);
            due.is("the other end gets one", x.deliver(1 - here), 0);
            due.is("39 again", x.deliver(here), 0);
        }
    }

    private static void deliverFullDown(Due due) {
        for (int end = 0; end < 2; end++) {
            InterleavedLink x = filled(Scenes.responded(1), 1 - end, 39);
            x.inject(end, 3, 0, 0, false);
            x.inject(end, 8, 0, 5, false);
            due.is("a link error at 39 frames", x.deliver(end), 101);
            due.frames("40 frames", x, 1 - end, 40);
            due.is("dropped", x.deliver(end), 0);
            due.is("taken out", x.deliver(end), -1);
            due.is("not got", x.window(end, 0, false), 40);
        }
    }

    /** Nine times DATA for a cut stream brings the pipe from 30 to 39 frames that the other end may well get. */
    private static void deliverMost(Due due) {
        for (int end = 0; end < 2; end++) {
            InterleavedLink x = Scenes.responded(2);
            x.reset(end, 3, 0);
            Scenes.settle(x);
            Scenes.got(x, end, 0, 1, 7);
            Scenes.fill(x, 1 - end, 30);
            for (int k = 0; k < 9; k++) {
                due.is("given back", Scenes.got(x, end, 0, 3, 1), 0);
            }
            due.frames("39 frames", x, 1 - end, 39);
            due.is("a stream error", Scenes.got(x, end, 8, 1, 0), 1);
            due.frame("RESET", x, 1 - end, 39, 3, 1, 1, 0, 0);
            due.frame("WINDOW", x, 1 - end, 40, 8, 0, 7, 0, 0);
            due.frames("41 frames", x, 1 - end, 41);
            for (int k = 0; k < 41; k++) {
                due.is("each comes", x.deliver(1 - end), 0);
            }
            due.is("RESET came", x.state(1 - end, 1), 4);
            due.is("all WINDOWs came", x.window(1 - end, 0, false), 40 + 30 + 9 + 7);
        }
    }

    private static void injectBehind(Due due) {
        for (int end = 0; end < 2; end++) {
            InterleavedLink x = Scenes.responded(1);
            x.setting(1 - end, 4, 9);
            due.yes("inject", x.inject(end, 8, 0, 5, false));
            x.setting(1 - end, 4, 8);
            int[] amounts = {9, 5, 8};
            for (int k = 0; k < 3; k++) {
                due.is("frame " + k, x.frame(end, k, 2), amounts[k]);
            }
            due.frames("none the other way", x, 1 - end, 0);
        }
    }

    private static void injectDown(Due due) {
        for (int end = 0; end < 2; end++) {
            InterleavedLink x = down(down(Scenes.responded(1), end, false), 1 - end, false);
            due.yes("both are down", x.inject(end, 8, 0, 5, false));
            due.frame("it is there", x, end, 0, 8, 0, 5, 0, 0);
            InterleavedLink y = down(Scenes.responded(1), 1 - end, false);
            due.yes("the other is down", y.inject(end, 8, 0, 5, false));
            due.is("it is got", y.deliver(end), 0);
            due.is("it is got", y.window(end, 0, false), 45);
        }
    }

    private static void injectData(Due due) {
        for (int end = 0; end < 2; end++) {
            for (int n : new int[] {0, 1, 15}) {
                for (boolean last : new boolean[] {false, true}) {
                    InterleavedLink x = Scenes.responded(1);
                    due.yes("inject", x.inject(end, 0, 1, n, last));
                    due.frame("DATA", x, end, 0, 0, 1, n, last ? 1 : 0, 0);
                    due.is("deliver", x.deliver(end), 0);
                    due.is("unread", x.bytes(end, 1, true), n);
                    due.is("END", x.state(end, 1), last ? 3 : 1);
                    due.is("all 0", x.read(end, 1, 7), 0);
                    due.is("all 0", x.read(end, 1, 7), 0);
                    due.is("all 0", x.read(end, 1, 7), 0);
                    due.is("all taken", x.bytes(end, 1, true), 0);
                }
            }
            for (int stream : Scenes.NO_STREAMS) {
                InterleavedLink x = new InterleavedLink();
                due.yes("stream " + stream, x.inject(end, 0, stream, 3, false));
                due.frame("stream " + stream, x, end, 0, 0, stream, 3, 0, 0);
            }
        }
    }

    private static void injectHeaders(Due due) {
        for (int end = 0; end < 2; end++) {
            for (int index : new int[] {1, 0, -1, 16, Integer.MIN_VALUE, Integer.MAX_VALUE}) {
                for (boolean last : new boolean[] {false, true}) {
                    for (int stream : new int[] {1, 0, Integer.MIN_VALUE}) {
                        InterleavedLink x = new InterleavedLink();
                        due.yes("inject", x.inject(end, 1, stream, index, last));
                        due.frame("HEADERS", x, end, 0, 1, stream, 1, last ? 1 : 0, index);
                    }
                }
            }
        }
    }

    private static void injectResetAndWindow(Due due) {
        for (int end = 0; end < 2; end++) {
            for (int kind : new int[] {3, 8}) {
                for (int number : new int[] {0, -1, 16, Integer.MIN_VALUE, Integer.MAX_VALUE}) {
                    for (int stream : new int[] {1, 0, Integer.MIN_VALUE, Integer.MAX_VALUE}) {
                        InterleavedLink x = new InterleavedLink();
                        due.yes("inject", x.inject(end, kind, stream, number, true));
                        due.frame("without a flag", x, end, 0, kind, stream, number, 0, 0);
                    }
                }
            }
        }
    }

    private static void injectSettings(Due due) {
        for (int end = 0; end < 2; end++) {
            for (int number : new int[] {0, -1, 201, Integer.MIN_VALUE, Integer.MAX_VALUE}) {
                for (int setting : new int[] {1, 0, 9, Integer.MIN_VALUE, Integer.MAX_VALUE}) {
                    InterleavedLink x = new InterleavedLink();
                    due.yes("inject", x.inject(end, 4, setting, number, false));
                    due.frame("SETTINGS", x, end, 0, 4, 0, number, 0, setting);
                    due.yes("inject", x.inject(end, 4, setting, number, true));
                    due.frame("ACK", x, end, 1, 4, 0, 0, 1, 0);
                }
            }
        }
    }

    private static void injectFarewell(Due due) {
        for (int end = 0; end < 2; end++) {
            for (int code : new int[] {0, 15}) {
                InterleavedLink x = new InterleavedLink();
                due.yes("inject", x.inject(end, 7, 9, code, true));
                due.frame("FAREWELL", x, end, 0, 7, 0, code, 0, 0);
                x.deliver(end);
                due.is("down", x.down(end), 200 + code);
            }
        }
    }

    private static void injectEnd(Due due) {
        for (int end : Scenes.NO_ENDS) {
            for (int kind : new int[] {0, 1, 3, 4, 7, 8}) {
                Twins.refused(due, "end " + end, () -> Scenes.responded(1),
                        x -> x.inject(end, kind, 1, 1, false) ? 1 : 0, 0);
            }
        }
    }

    private static void injectKind(Due due) {
        for (int end = 0; end < 2; end++) {
            int here = end;
            for (int kind : new int[] {-1, 2, 5, 6, 9, Integer.MIN_VALUE, Integer.MAX_VALUE}) {
                Twins.refused(due, "kind " + kind, () -> Scenes.responded(1),
                        x -> x.inject(here, kind, 1, 1, false) ? 1 : 0, 0);
            }
        }
    }

    private static void injectX(Due due) {
        for (int end = 0; end < 2; end++) {
            int here = end;
            for (int kind : new int[] {0, 7}) {
                for (int number : new int[] {-1, 16, Integer.MIN_VALUE, Integer.MAX_VALUE}) {
                    Twins.refused(due, kind + " with " + number, () -> Scenes.responded(1),
                            x -> x.inject(here, kind, 1, number, true) ? 1 : 0, 0);
                }
            }
        }
    }

    private static void injectFull(Due due) {
        for (int end = 0; end < 2; end++) {
            int here = end;
            for (int kind : new int[] {0, 1, 3, 4, 7, 8}) {
                InterleavedLink x = filled(Scenes.responded(1), here, 29);
                due.yes("29 frames", x.inject(here, kind, 1, 1, false));
                due.no("30 frames", x.inject(here, kind, 1, 1, false));
                for (int frames : new int[] {30, 31, 40}) {
                    Twins.refused(due, frames + " frames", () -> filled(Scenes.responded(1), here, frames),
                            y -> y.inject(here, kind, 1, 1, false) ? 1 : 0, 0);
                }
                due.yes("the other pipe", filled(Scenes.responded(1), 1 - here, 30).inject(here, kind, 1, 1, false));
            }
        }
    }
}
