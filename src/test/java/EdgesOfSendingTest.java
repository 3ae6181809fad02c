/** The edges of promises 1 to 6: a new object, header, request, respond, write, pump. */
public final class EdgesOfSendingTest {
    public static void main(String[] args) {
        Sentences s = new Sentences();
        s.holds("1: Both ends up, both pipes empty, nothing in the making.", EdgesOfSendingTest::newObject);
        s.holds("2: Adds a field. Answers how many it has now.", EdgesOfSendingTest::header);
        s.holds("2: NONE when the end is not 0 or 1", EdgesOfSendingTest::headerEnd);
        s.holds("2: NONE when the end is down", EdgesOfSendingTest::headerDown);
        s.holds("2: NONE when the name is not 0 .. 15", EdgesOfSendingTest::headerName);
        s.holds("2: NONE when 6 are there", EdgesOfSendingTest::headerSix);
        s.holds("3: the first one being 1 and each other one 2 higher", EdgesOfSendingTest::requestNumbers);
        s.holds("3: HEADERS with the list (which is empty then), with END if last says so",
                EdgesOfSendingTest::requestList);
        s.holds("3: NONE when end 0 is down", EdgesOfSendingTest::requestDown);
        s.holds("3: NONE when 23 was opened", EdgesOfSendingTest::requestLast);
        s.holds("3: NONE when the list is empty", EdgesOfSendingTest::requestEmpty);
        s.holds("3: NONE when as many streams are ACTIVE as the most that end 1 told, or more",
                EdgesOfSendingTest::requestMost);
        s.holds("3: FULL for end 0", EdgesOfSendingTest::requestFull);
        s.holds("4: HEADERS with its list (which is empty then). Answers how many fields that were.",
                EdgesOfSendingTest::respondList);
        s.holds("4: NONE when end 1 is down", EdgesOfSendingTest::respondDown);
        s.holds("4: NONE when the stream is not OPEN or HALF REMOTE there (or no stream)",
                EdgesOfSendingTest::respondStream);
        s.holds("4: NONE when it responded there already", EdgesOfSendingTest::respondTwice);
        s.holds("4: NONE when the list is empty", EdgesOfSendingTest::respondEmpty);
        s.holds("4: FULL for end 1", EdgesOfSendingTest::respondFull);
        s.holds("5: the lowest 8 bits of bytes first, behind those that wait", EdgesOfSendingTest::writeOrder);
        s.holds("5: behind those of the stream that wait to be sent, for as long as it goes on",
                EdgesOfSendingTest::writeGoesOn);
        s.holds("5: with last, no more follow", EdgesOfSendingTest::writeLast);
        s.holds("5: NONE when the end is not 0 or 1 or is down", EdgesOfSendingTest::writeEnd);
        s.holds("5: NONE when the stream is not OPEN or HALF REMOTE there (or no stream)",
                EdgesOfSendingTest::writeStream);
        s.holds("5: NONE when end 1 has not responded on it", EdgesOfSendingTest::writeNotResponded);
        s.holds("5: NONE when n is not 0 .. 8", EdgesOfSendingTest::writeN);
        s.holds("5: NONE when more than 32 would wait", EdgesOfSendingTest::writeMost);
        s.holds("5: NONE when last was said for it before (with last, or by the HEADERS)",
                EdgesOfSendingTest::writeBehindLast);
        s.holds("6: as long as fewer than n were sent in this call", EdgesOfSendingTest::pumpFewer);
        s.holds("6: the pipe towards the other end has fewer than 30", EdgesOfSendingTest::pumpPipe);
        s.holds("6: CAN: it is OPEN or HALF REMOTE there", EdgesOfSendingTest::pumpStates);
        s.holds("6: CAN: bytes of it wait and its send window and that of the link are above 0",
                EdgesOfSendingTest::pumpWindows);
        s.holds("6: CAN: or none wait, last was said and END was not sent", EdgesOfSendingTest::pumpEnd);
        s.holds("6: the first one behind the stream that sent DATA last here, in the order 1, 3, .. 23, 1, ..",
                EdgesOfSendingTest::pumpTurns);
        s.holds("6: from 1 on when none did", EdgesOfSendingTest::pumpFirst);
        s.holds("6: as many of the bytes that wait as there are, at most 8, and at most either window",
                EdgesOfSendingTest::pumpSizes);
        s.holds("6: both get so many less", EdgesOfSendingTest::pumpTakes);
        s.holds("6: END, when last was said and no more wait", EdgesOfSendingTest::pumpLast);
        s.holds("6: NONE when the end is not 0 or 1 or is down", EdgesOfSendingTest::pumpEnds);
        s.holds("6: NONE when n is not 1 .. 8", EdgesOfSendingTest::pumpN);
        s.finish();
    }

    private static InterleavedLink downByError(int end) {
        return Scenes.fallen(Scenes.responded(1), end);
    }

    private static InterleavedLink downByFarewell(int end) {
        InterleavedLink x = Scenes.responded(1);
        Scenes.got(x, end, 7, 0, 0);
        return x;
    }

    private static void newObject(Due due) {
        InterleavedLink other = Scenes.responded(2);
        other.header(0, 1, 1, false);
        other.setting(0, 4, 9);
        Scenes.fallen(other, 1);
        InterleavedLink x = new InterleavedLink();
        for (int end = 0; end < 2; end++) {
            due.is("up", x.down(end), 0);
            due.is("no frame", x.frame(end, 0, 0), -1);
            due.is("nothing to deliver", x.deliver(end), -1);
            due.is("nothing to send", x.pump(end, 8), 0);
            for (int stream = 1; stream <= 23; stream += 2) {
                due.is("IDLE", x.state(end, stream), 0);
                due.is("no list", x.field(end, stream, 0, true), -1);
            }
        }
        due.is("nothing in the making at end 0", x.request(false), -1);
        due.is("the first field of end 0", x.header(0, 0, 0, false), 1);
        due.is("the first field of end 1", x.header(1, 0, 0, false), 1);
        due.is("the first stream", x.request(false), 1);
    }

    private static void header(Due due) {
        InterleavedLink x = new InterleavedLink();
        for (int k = 1; k <= 6; k++) {
            due.is("end 0", x.header(0, 1, 7, k == 2), k);
            due.is("end 1, an equal field", x.header(1, 1, 7, k == 3), k);
        }
    }

    private static void headerEnd(Due due) {
        for (int end : Scenes.NO_ENDS) {
            Twins.refused(due, "end " + end, () -> Scenes.responded(1), x -> x.header(end, 1, 1, false), -1);
        }
    }

    private static void headerDown(Due due) {
        for (int end = 0; end < 2; end++) {
            int here = end;
            Twins.refused(due, "by an error", () -> downByError(here), x -> x.header(here, 1, 1, false), -1);
            Twins.refused(due, "by FAREWELL", () -> downByFarewell(here), x -> x.header(here, 1, 1, false), -1);
            due.is("the other end is up", downByError(here).header(1 - here, 1, 1, false), 1);
        }
    }

    private static void headerName(Due due) {
        for (int name : new int[] {-1, 16, Integer.MIN_VALUE, Integer.MAX_VALUE}) {
            for (int end = 0; end < 2; end++) {
                int here = end;
                Twins.refused(due, "name " + name, () -> Scenes.responded(1), x -> x.header(here, name, 1, true), -1);
            }
        }
        due.is("name 0", new InterleavedLink().header(0, 0, 5, false), 1);
        due.is("name 15", new InterleavedLink().header(0, 15, 5, false), 1);
    }

    private static InterleavedLink withFields(int end, int count) {
        InterleavedLink x = Scenes.requested(1);
        for (int k = 0; k < count; k++) {
            x.header(end, 8, k, false);
        }
        return x;
    }

    private static void headerSix(Due due) {
        for (int end = 0; end < 2; end++) {
            int here = end;
            due.is("the sixth", withFields(here, 5).header(here, 8, 9, false), 6);
            Twins.refused(due, "a seventh", () -> withFields(here, 6), x -> x.header(here, 8, 9, false), -1);
        }
    }

    private static void requestNumbers(Due due) {
        InterleavedLink x = new InterleavedLink();
        for (int stream = 1; stream <= 23; stream += 2) {
            due.is("request", Scenes.request(x, stream % 4 == 1), stream);
            due.is("the frame", x.frame(1, stream / 2, 1), stream);
        }
        InterleavedLink y = new InterleavedLink();
        Scenes.request(y, false);
        y.reset(0, 1, 0);
        due.is("2 higher, though 1 is CLOSED", Scenes.request(y, false), 3);
    }

    private static void requestList(Due due) {
        for (boolean last : new boolean[] {false, true}) {
            InterleavedLink x = withFields(0, 6);
            due.is("request", x.request(last), 3);
            due.is("the state", x.state(0, 3), last ? 2 : 1);
            due.frame("HEADERS", x, 1, 0, 1, 3, 6, last ? 1 : 0);
            due.is("the list is empty then", x.request(last), -1);
            due.is("and begins again", x.header(0, 8, 0, false), 1);
            due.is("end 1 knows nothing of it yet", x.state(1, 3), 0);
        }
    }

    private static void requestDown(Due due) {
        for (int way = 0; way < 2; way++) {
            boolean byError = way == 0;
            Twins.Scene scene = () -> {
                InterleavedLink x = Scenes.responded(1);
                x.header(0, 1, 1, false);
                Scenes.got(x, 0, byError ? 3 : 7, 0, 0);
                return x;
            };
            Twins.refused(due, "down", scene, x -> x.request(false), -1);
        }
        InterleavedLink x = downByError(1);
        due.is("end 1 may be down", Scenes.request(x, false), 3);
    }

    private static void requestLast(Due due) {
        Twins.Scene scene = () -> {
            InterleavedLink x = Scenes.requested(12);
            x.reset(0, 1, 0);
            x.header(0, 1, 1, false);
            return x;
        };
        Twins.refused(due, "23 was opened", scene, x -> x.request(false), -1);
        InterleavedLink x = Scenes.requested(11);
        due.is("21 was opened", Scenes.request(x, false), 23);
    }

    private static void requestEmpty(Due due) {
        Twins.refused(due, "an empty list", () -> Scenes.requested(1), x -> x.request(true), -1);
        Twins.refused(due, "that of end 1 is none", () -> withFields(1, 3), x -> x.request(true), -1);
        due.is("a list of one", withFields(0, 1).request(true), 3);
    }

    private static InterleavedLink active(int streams, int most) {
        InterleavedLink x = Scenes.requested(streams);
        Scenes.set(x, 1, 3, most);
        x.header(0, 1, 1, false);
        return x;
    }

    private static void requestMost(Due due) {
        for (int most : new int[] {0, 1, 2, 11}) {
            Twins.refused(due, "as many as " + most, () -> active(most, most), x -> x.request(false), -1);
            if (most > 0) {
                due.is("one fewer", active(most - 1, most).request(false), 2 * most - 1);
            }
        }
        Twins.refused(due, "more", () -> active(3, 2), x -> x.request(false), -1);
        InterleavedLink x = Scenes.requested(1);
        x.setting(1, 3, 1);
        due.is("not told yet", Scenes.request(x, false), 3);
    }

    private static InterleavedLink asking(int frames) {
        InterleavedLink x = withFields(0, 2);
        if (frames <= 30) {
            Scenes.fill(x, 1, frames);
        } else {
            Scenes.overfill(x, 1, frames);
        }
        return x;
    }

    private static void requestFull(Due due) {
        due.is("29 frames", asking(29).request(false), 3);
        for (int frames : new int[] {30, 31, 40}) {
            Twins.refused(due, frames + " frames", () -> asking(frames), x -> x.request(false), -2);
        }
        InterleavedLink x = withFields(0, 1);
        Scenes.fill(x, 0, 30);
        due.is("the pipe towards end 0 does not count", x.request(false), 3);
    }

    private static void respondList(Due due) {
        for (boolean last : new boolean[] {false, true}) {
            for (int fields : new int[] {1, 6}) {
                InterleavedLink x = withFields(1, fields);
                due.is("respond", x.respond(1, last), fields);
                due.is("the state", x.state(1, 1), last ? 2 : 1);
                due.frame("HEADERS", x, 0, 0, 1, 1, fields, last ? 1 : 0);
                due.is("the list is empty then", x.header(1, 8, 0, false), 1);
            }
        }
    }

    private static void respondDown(Due due) {
        for (int way = 0; way < 2; way++) {
            boolean byError = way == 0;
            Twins.Scene scene = () -> {
                InterleavedLink x = withFields(1, 1);
                Scenes.got(x, 1, byError ? 3 : 7, 0, 0);
                return x;
            };
            Twins.refused(due, "down", scene, x -> x.respond(1, false), -1);
        }
        due.is("end 0 may be down", Scenes.fallen(withFields(1, 1), 0).respond(1, false), 1);
    }

    /** Stream 1 is OPEN, 3 HALF REMOTE, 5 cut, 7 HALF LOCAL, 9 CLOSED BY ITS ENDS, 11 CLOSED below 13. */
    private static InterleavedLink responding() {
        InterleavedLink x = new InterleavedLink();
        for (int stream = 1; stream <= 9; stream += 2) {
            Scenes.got(x, 1, 1, stream, 1, stream == 3 || stream == 9);
        }
        Scenes.got(x, 1, 1, 13, 1);
        x.reset(1, 5, 0);
        Scenes.respond(x, 7, true);
        Scenes.respond(x, 9, true);
        x.header(1, 8, 8, false);
        return x;
    }

    private static void respondStream(Due due) {
        due.is("OPEN", responding().respond(1, false), 1);
        due.is("HALF REMOTE", responding().respond(3, false), 1);
        for (int stream : new int[] {5, 7, 9, 11, 15, 23}) {
            Twins.refused(due, "stream " + stream, EdgesOfSendingTest::responding, x -> x.respond(stream, false), -1);
        }
        for (int stream : Scenes.NO_STREAMS) {
            Twins.refused(due, "stream " + stream, EdgesOfSendingTest::responding, x -> x.respond(stream, false), -1);
        }
        InterleavedLink x = new InterleavedLink();
        Scenes.request(x, false);
        due.is("OPEN at end 0 alone", Scenes.respond(x, 1, false), -1);
    }

    private static void respondTwice(Due due) {
        Twins.Scene scene = () -> {
            InterleavedLink x = Scenes.responded(2);
            Scenes.got(x, 1, 0, 3, 0, true);
            x.header(1, 8, 8, false);
            return x;
        };
        Twins.refused(due, "OPEN", scene, x -> x.respond(1, true), -1);
        Twins.refused(due, "HALF REMOTE", scene, x -> x.respond(3, true), -1);
    }

    private static void respondEmpty(Due due) {
        Twins.refused(due, "an empty list", () -> Scenes.requested(1), x -> x.respond(1, false), -1);
        Twins.refused(due, "that of end 0 is none", () -> withFields(0, 3), x -> x.respond(1, false), -1);
    }

    private static InterleavedLink answering(int frames) {
        InterleavedLink x = withFields(1, 2);
        if (frames <= 30) {
            Scenes.fill(x, 0, frames);
        } else {
            Scenes.overfill(x, 0, frames);
        }
        return x;
    }

    private static void respondFull(Due due) {
        due.is("29 frames", answering(29).respond(1, false), 2);
        for (int frames : new int[] {30, 31, 40}) {
            Twins.refused(due, frames + " frames", () -> answering(frames), x -> x.respond(1, false), -2);
        }
    }

    private static void writeOrder(Due due) {
        for (int end = 0; end < 2; end++) {
            InterleavedLink x = Scenes.responded(1);
            due.is("none", x.write(end, 1, -1L, 0, false), 0);
            due.is("one", x.write(end, 1, 0xFF80L, 1, false), 1);
            due.is("seven", x.write(end, 1, 0x80A7A6A5A4A3A2A1L, 7, false), 8);
            due.is("eight", x.write(end, 1, 0x80FF010203040506L, 8, false), 16);
            x.pump(end, 8);
            Scenes.drain(x, 1 - end);
            due.is("the first seven", x.read(1 - end, 1, 7), 0xA6A5A4A3A2A180L);
            due.is("the next seven", x.read(1 - end, 1, 7), 0x010203040506A7L);
            due.is("the rest", x.read(1 - end, 1, 7), 0x80FFL);
        }
    }

    /** The bytes are numbered 1, 2, ..; they are written, sent and read in portions that differ. */
    private static void writeGoesOn(Due due) {
        InterleavedLink x = Scenes.requested(1);
        int written = 0;
        int read = 0;
        for (int round = 0; round < 30; round++) {
            int n = round * 5 % 9;
            long bytes = 0;
            for (int k = n; k >= 1; k--) {
                bytes = bytes << 8 | written + k & 255;
            }
            if (x.write(0, 1, bytes, n, false) >= 0) {
                written += n;
            }
            x.pump(0, 1);
            x.deliver(1);
            int unread = x.bytes(1, 1, true);
            int most = 1 + round % 7;
            long want = 0;
            for (int k = Math.min(most, unread); k >= 1; k--) {
                want = want << 8 | read + k & 255;
            }
            due.is("round " + round, x.read(1, 1, most), want);
            read += Math.min(most, unread);
            Scenes.drain(x, 0);
        }
        due.is("written", written, read + x.bytes(0, 1, false) + x.bytes(1, 1, true));
        due.yes("more than ever wait at once", read > 64);
    }

    private static void writeLast(Due due) {
        InterleavedLink x = Scenes.responded(1);
        due.is("last", x.write(0, 1, 0, 2, true), 2);
        due.is("OPEN till it is sent", x.state(0, 1), 1);
        x.pump(0, 1);
        due.frame("END", x, 1, 0, 0, 1, 2, 1, 0);
        InterleavedLink y = Scenes.responded(1);
        y.write(0, 1, 0, 2, false);
        y.pump(0, 1);
        due.frame("no END", y, 1, 0, 0, 1, 2, 0, 0);
    }

    private static void writeEnd(Due due) {
        for (int end : Scenes.NO_ENDS) {
            Twins.refused(due, "end " + end, () -> Scenes.responded(1), x -> x.write(end, 1, 0, 1, true), -1);
        }
        for (int end = 0; end < 2; end++) {
            int here = end;
            Twins.refused(due, "by an error", () -> downByError(here), x -> x.write(here, 1, 0, 1, true), -1);
            Twins.refused(due, "by FAREWELL", () -> downByFarewell(here), x -> x.write(here, 1, 0, 1, true), -1);
            due.is("the other end may be down", downByError(1 - here).write(here, 1, 0, 1, true), 1);
        }
    }

    private static void writeStream(Due due) {
        for (int end = 0; end < 2; end++) {
            int here = end;
            for (int state : new int[] {Scenes.OPEN, Scenes.HALF_REMOTE}) {
                due.is("in the state " + state, Scenes.in(state, here).write(here, 1, 0, 1, false), 1);
            }
            for (int state : new int[] {Scenes.IDLE, Scenes.HALF_LOCAL, Scenes.CLOSED, Scenes.CUT}) {
                Twins.refused(due, "in the state " + state, () -> Scenes.in(state, here),
                        x -> x.write(here, 1, 0, 1, false), -1);
            }
            for (int stream : Scenes.NO_STREAMS) {
                Twins.refused(due, "stream " + stream, () -> Scenes.responded(12),
                        x -> x.write(here, stream, 0, 1, false), -1);
            }
            due.is("stream 23", Scenes.responded(12).write(here, 23, 0, 1, false), 1);
        }
    }

    private static void writeNotResponded(Due due) {
        Twins.refused(due, "end 1", () -> Scenes.requested(1), x -> x.write(1, 1, 0, 1, false), -1);
        Twins.refused(due, "end 1, nothing but last", () -> Scenes.requested(1), x -> x.write(1, 1, 0, 0, true), -1);
        due.is("end 0 need not wait for it", Scenes.requested(1).write(0, 1, 0, 1, false), 1);
        InterleavedLink x = Scenes.requested(1);
        Scenes.respond(x, 1, false);
        due.is("it has responded", x.write(1, 1, 0, 1, false), 1);
        InterleavedLink y = Scenes.requested(2);
        Scenes.respond(y, 1, false);
        due.is("on another stream alone", y.write(1, 3, 0, 1, false), -1);
    }

    private static void writeN(Due due) {
        for (int end = 0; end < 2; end++) {
            int here = end;
            for (int n : new int[] {-1, 9, Integer.MIN_VALUE, Integer.MAX_VALUE}) {
                Twins.refused(due, "n " + n, () -> Scenes.responded(1), x -> x.write(here, 1, 0, n, true), -1);
            }
            due.is("n 0", Scenes.responded(1).write(here, 1, 0, 0, false), 0);
            due.is("n 8", Scenes.responded(1).write(here, 1, 0, 8, false), 8);
        }
    }

    private static InterleavedLink waiting(int end, int bytes) {
        InterleavedLink x = Scenes.responded(1);
        for (int left = bytes; left > 0; left -= 8) {
            x.write(end, 1, 0x0807060504030201L, Math.min(left, 8), false);
        }
        return x;
    }

    private static void writeMost(Due due) {
        for (int end = 0; end < 2; end++) {
            int here = end;
            due.is("32", waiting(here, 31).write(here, 1, 0, 1, false), 32);
            due.is("32 by 8", waiting(here, 24).write(here, 1, 0, 8, false), 32);
            due.is("0 more at 32", waiting(here, 32).write(here, 1, 0, 0, true), 32);
            Twins.refused(due, "33", () -> waiting(here, 32), x -> x.write(here, 1, 0, 1, true), -1);
            Twins.refused(due, "33 by 8", () -> waiting(here, 25), x -> x.write(here, 1, 0, 8, true), -1);
            InterleavedLink x = waiting(here, 32);
            x.pump(here, 1);
            due.is("room again", x.write(here, 1, 0x0F0E0D0C0B0A0908L, 8, false), 32);
            due.is("no more", x.write(here, 1, 0, 1, false), -1);
        }
    }

    private static void writeBehindLast(Due due) {
        for (int end = 0; end < 2; end++) {
            int here = end;
            Twins.Scene said = () -> {
                InterleavedLink x = waiting(here, 3);
                x.write(here, 1, 0, 0, true);
                return x;
            };
            Twins.refused(due, "with last", said, x -> x.write(here, 1, 0, 1, false), -1);
            Twins.refused(due, "with last, no bytes", said, x -> x.write(here, 1, 0, 0, false), -1);
            Twins.refused(due, "with last, last again", said, x -> x.write(here, 1, 0, 0, true), -1);
        }
        Twins.Scene asked = () -> {
            InterleavedLink x = new InterleavedLink();
            Scenes.request(x, true);
            return x;
        };
        Twins.refused(due, "by the HEADERS of a request", asked, x -> x.write(0, 1, 0, 1, false), -1);
        Twins.Scene answered = () -> {
            InterleavedLink x = Scenes.requested(1);
            Scenes.respond(x, 1, true);
            return x;
        };
        Twins.refused(due, "by the HEADERS of a response", answered, x -> x.write(1, 1, 0, 1, false), -1);
        due.is("the other end has its own last", answered.make().write(0, 1, 0, 1, false), 1);
    }

    /** A link on which ten streams have a byte each that waits. */
    private static InterleavedLink tenWaiting(int end) {
        InterleavedLink x = Scenes.responded(10);
        for (int k = 0; k < 10; k++) {
            x.write(end, 2 * k + 1, 0, 1, false);
        }
        return x;
    }

    private static void pumpFewer(Due due) {
        for (int end = 0; end < 2; end++) {
            for (int n = 1; n <= 8; n++) {
                InterleavedLink x = tenWaiting(end);
                due.is("n " + n, x.pump(end, n), n);
                due.frames("n " + n, x, 1 - end, n);
                due.is("the rest", x.pump(end, 8), Math.min(8, 10 - n));
            }
            due.is("nothing waits", Scenes.responded(1).pump(end, 8), 0);
        }
    }

    private static void pumpPipe(Due due) {
        for (int end = 0; end < 2; end++) {
            int[][] rows = {{22, 8}, {23, 7}, {28, 2}, {29, 1}, {30, 0}};
            for (int[] row : rows) {
                InterleavedLink x = tenWaiting(end);
                Scenes.fill(x, 1 - end, row[0]);
                due.is("with " + row[0], x.pump(end, 8), row[1]);
                due.frames("with " + row[0], x, 1 - end, row[0] + row[1]);
            }
            InterleavedLink x = tenWaiting(end);
            Scenes.overfill(x, 1 - end, 31);
            due.is("with 31", x.pump(end, 8), 0);
            due.frames("with 31", x, 1 - end, 31);
            InterleavedLink y = tenWaiting(end);
            Scenes.fill(y, end, 30);
            due.is("the pipe towards itself does not count", y.pump(end, 8), 8);
        }
    }

    private static void pumpStates(Due due) {
        for (int end = 0; end < 2; end++) {
            for (int state = Scenes.IDLE; state <= Scenes.CUT; state++) {
                InterleavedLink x = Scenes.in(state, end);
                x.write(end, 1, 0, 1, true);
                boolean can = state == Scenes.OPEN || state == Scenes.HALF_REMOTE;
                due.is("in the state " + state, x.pump(end, 8), can ? 1 : 0);
            }
            InterleavedLink x = waiting(end, 5);
            x.reset(end, 1, 0);
            due.is("cut with bytes that waited", x.pump(end, 8), 0);
            InterleavedLink y = Scenes.responded(1);
            y.write(end, 1, 0, 0, true);
            y.reset(end, 1, 0);
            due.is("cut with last said", y.pump(end, 8), 0);
        }
    }

    private static void pumpWindows(Due due) {
        for (int end = 0; end < 2; end++) {
            int[][] rows = {{0, 0}, {1, 1}};
            for (int[] row : rows) {
                InterleavedLink x = waiting(end, 8);
                Scenes.got(x, end, 4, 4, row[0]);
                due.is("a stream's window of " + row[0], x.pump(end, 8), row[1]);
                due.is("what waits", x.bytes(end, 1, false), 8 - row[1]);
            }
            InterleavedLink x = waiting(end, 16);
            x.pump(end, 1);
            Scenes.got(x, end, 4, 4, 7);
            due.is("a stream's window of -1", x.window(end, 1, false), -1);
            due.is("below 0", x.pump(end, 8), 0);
            InterleavedLink y = exhausted(end);
            due.is("the link's window of 0", y.pump(end, 8), 0);
            Scenes.got(y, end, 8, 0, 1);
            due.is("the link's window of 1", y.pump(end, 8), 1);
            due.is("0 again", y.pump(end, 8), 0);
        }
    }

    /** A link on which the end has used up the link's window; streams 1, 3 and 5 have bytes that wait, and windows. */
    private static InterleavedLink exhausted(int end) {
        InterleavedLink x = Scenes.responded(5);
        for (int k = 0; k < 5; k++) {
            x.write(end, 2 * k + 1, 0, 8, false);
        }
        x.pump(end, 8);
        Scenes.drain(x, 1 - end);
        for (int k = 0; k < 3; k++) {
            x.write(end, 2 * k + 1, 0, 3, false);
        }
        return x;
    }

    private static void pumpEnd(Due due) {
        for (int end = 0; end < 2; end++) {
            InterleavedLink x = Scenes.responded(1);
            due.is("last not said", x.pump(end, 8), 0);
            x.write(end, 1, 0, 0, true);
            due.is("last said", x.pump(end, 8), 1);
            due.frame("without bytes", x, 1 - end, 0, 0, 1, 0, 1, 0);
            due.is("END was sent", x.pump(end, 8), 0);
            InterleavedLink y = exhausted(end);
            y.write(end, 9, 0, 0, true);
            y.write(end, 3, 0, 0, true);
            due.is("needs no window of the link; 3 has bytes that wait", y.pump(end, 8), 1);
            due.frame("END of 9", y, 1 - end, 0, 0, 9, 0, 1, 0);
            InterleavedLink z = Scenes.responded(1);
            Scenes.got(z, end, 4, 4, 0);
            z.write(end, 1, 0, 0, true);
            due.is("needs no window of the stream", z.pump(end, 8), 1);
        }
        InterleavedLink x = new InterleavedLink();
        Scenes.request(x, true);
        due.is("END was sent by the HEADERS", x.pump(0, 8), 0);
    }

    private static void pumpTurns(Due due) {
        for (int end = 0; end < 2; end++) {
            InterleavedLink x = Scenes.responded(12);
            for (int stream : new int[] {1, 11, 21, 23}) {
                x.write(end, stream, 0, 1, false);
            }
            x.pump(end, 2);
            x.write(end, 1, 0, 1, false);
            x.write(end, 11, 0, 1, false);
            x.write(end, 9, 0, 1, false);
            due.is("a round", x.pump(end, 8), 5);
            int[] order = {1, 11, 21, 23, 1, 9, 11};
            for (int k = 0; k < order.length; k++) {
                due.is("frame " + k, x.frame(1 - end, k, 1), order[k]);
            }
            x.write(end, 11, 0, 1, false);
            due.is("the same again when no other can", x.pump(end, 8), 1);
            x.write(end, 13, 0, 1, false);
            x.write(end, 11, 0, 1, false);
            x.pump(end, 1);
            due.is("the one behind it first", x.frame(1 - end, 8, 1), 13);
        }
        InterleavedLink y = Scenes.responded(3);
        y.write(0, 3, 0, 1, false);
        y.pump(0, 8);
        y.write(1, 1, 0, 1, false);
        y.write(1, 5, 0, 1, false);
        y.pump(1, 1);
        due.is("the other end has its own turns", y.frame(0, 0, 1), 1);
        for (int n = 0; n < 2; n++) {
            InterleavedLink z = Scenes.responded(4);
            z.write(0, 1, 0, 1, false);
            z.write(0, 5, 0, n, true);
            due.is("1 and 5", z.pump(0, 8), 2);
            z.write(0, 3, 0, 1, false);
            z.write(0, 7, 0, 1, false);
            z.pump(0, 1);
            due.is("behind 5, which has ended with " + n + " bytes", z.frame(1, 2, 1), 7);
        }
    }

    private static void pumpFirst(Due due) {
        for (int end = 0; end < 2; end++) {
            InterleavedLink x = Scenes.responded(12);
            x.write(end, 23, 0, 1, false);
            x.write(end, 1, 0, 1, false);
            x.pump(end, 1);
            due.is("1", x.frame(1 - end, 0, 1), 1);
            InterleavedLink y = Scenes.responded(12);
            y.write(end, 23, 0, 1, false);
            y.write(end, 3, 0, 1, false);
            y.pump(end, 1);
            due.is("3", y.frame(1 - end, 0, 1), 3);
        }
    }

    private static void pumpSizes(Due due) {
        for (int end = 0; end < 2; end++) {
            for (int bytes : new int[] {1, 7, 8, 9}) {
                InterleavedLink x = waiting(end, bytes);
                x.pump(end, 1);
                due.is(bytes + " wait", x.frame(1 - end, 0, 2), Math.min(bytes, 8));
                due.is("the rest", x.bytes(end, 1, false), bytes == 9 ? 1 : 0);
            }
            for (int window : new int[] {1, 7, 8, 9}) {
                InterleavedLink x = waiting(end, 16);
                Scenes.got(x, end, 4, 4, window);
                Scenes.drain(x, 1 - end);
                x.pump(end, 1);
                due.is("a stream's window of " + window, x.frame(1 - end, 0, 2), Math.min(window, 8));
            }
            for (int window : new int[] {1, 2, 3, 4}) {
                InterleavedLink x = exhausted(end);
                Scenes.got(x, end, 8, 0, window);
                x.pump(end, 1);
                due.is("the link's window of " + window, x.frame(1 - end, 0, 2), Math.min(window, 3));
            }
        }
    }

    private static void pumpTakes(Due due) {
        for (int end = 0; end < 2; end++) {
            InterleavedLink x = waiting(end, 11);
            x.write(end, 1, 0, 0, true);
            x.pump(end, 1);
            due.is("the stream's", x.window(end, 1, false), 8);
            due.is("the link's", x.window(end, 0, false), 32);
            x.pump(end, 1);
            due.is("the stream's", x.window(end, 1, false), 5);
            due.is("the link's", x.window(end, 0, false), 29);
            due.is("the receive window of the stream stays", x.window(end, 1, true), 16);
            due.is("the receive window of the link stays", x.window(end, 0, true), 40);
        }
    }

    private static void pumpLast(Due due) {
        for (int end = 0; end < 2; end++) {
            int[][] rows = {{0, 1}, {1, 1}, {7, 1}, {8, 1}, {9, 2}, {16, 2}, {17, 2}};
            for (int[] row : rows) {
                InterleavedLink x = waiting(end, row[0]);
                x.write(end, 1, 0, 0, true);
                due.is("frames for " + row[0], x.pump(end, 8), row[1]);
                due.is("END", x.frame(1 - end, row[1] - 1, 3), row[0] == 17 ? 0 : 1);
                if (row[1] == 2) {
                    due.is("no END while more wait", x.frame(1 - end, 0, 3), 0);
                }
                due.is("the state", x.state(end, 1), row[0] == 17 ? 1 : 2);
            }
        }
    }

    private static void pumpEnds(Due due) {
        for (int end : Scenes.NO_ENDS) {
            Twins.refused(due, "end " + end, () -> waiting(0, 1), x -> x.pump(end, 1), -1);
        }
        for (int end = 0; end < 2; end++) {
            int here = end;
            for (int kind : new int[] {3, 7}) {
                Twins.Scene scene = () -> {
                    InterleavedLink x = waiting(here, 1);
                    Scenes.got(x, here, kind, 0, 0);
                    return x;
                };
                Twins.refused(due, "down", scene, x -> x.pump(here, 1), -1);
            }
            due.is("the other end may be down", Scenes.fallen(waiting(here, 1), 1 - here).pump(here, 1), 1);
        }
    }

    private static void pumpN(Due due) {
        for (int end = 0; end < 2; end++) {
            int here = end;
            for (int n : new int[] {0, -1, 9, Integer.MIN_VALUE, Integer.MAX_VALUE}) {
                Twins.refused(due, "n " + n, () -> waiting(here, 1), x -> x.pump(here, n), -1);
            }
            due.is("n 1", waiting(here, 1).pump(here, 1), 1);
            due.is("n 8", waiting(here, 1).pump(here, 8), 1);
        }
    }
}
