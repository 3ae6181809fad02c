/** Promise 6. */
public final class PumpTest {
    public static void main(String[] args) {
        Due due = new Due();
        wrongInputs(due);
        turns(due);
        sizes(due);
        ends(due);
        leastWindows(due);
        negativeWindow(due);
        full(due);
        due.finish();
    }

    private static void wrongInputs(Due due) {
        InterleavedLink x = Scenes.responded(1);
        x.write(0, 1, 1, 1, false);
        due.is("end -1", x.pump(-1, 1), -1);
        due.is("end 2", x.pump(2, 1), -1);
        due.is("n 0", x.pump(0, 0), -1);
        due.is("n 9", x.pump(0, 9), -1);
        due.is("n 8", x.pump(0, 8), 1);
        due.is("nothing left", x.pump(0, 8), 0);
        Scenes.fallen(x, 0);
        due.is("down", x.pump(0, 1), -1);
    }

    private static void turns(Due due) {
        InterleavedLink x = Scenes.responded(12);
        for (int stream : new int[] {3, 7, 23}) {
            x.write(0, stream, 0, 8, false);
            x.write(0, stream, 0, 1, false);
        }
        due.is("two turns", x.pump(0, 2), 2);
        due.frame("the first", x, 1, 0, 0, 3, 8, 0, 0);
        due.frame("behind it", x, 1, 1, 0, 7, 8, 0, 0);
        x.write(0, 1, 0, 1, false);
        due.is("the rest", x.pump(0, 8), 5);
        due.frame("goes on behind 7", x, 1, 2, 0, 23, 8, 0, 0);
        due.frame("from 1 on", x, 1, 3, 0, 1, 1, 0, 0);
        due.frame("then 3", x, 1, 4, 0, 3, 1, 0, 0);
        due.frame("then 7", x, 1, 5, 0, 7, 1, 0, 0);
        due.frame("then 23", x, 1, 6, 0, 23, 1, 0, 0);
        x.write(1, 5, 0, 1, false);
        x.write(1, 3, 0, 1, false);
        x.pump(1, 8);
        due.frame("each end has its own turns", x, 0, 0, 0, 3, 1, 0, 0);
        x.write(0, 1, 0, 8, false);
        due.is("the same stream again, alone", x.pump(0, 1), 1);
        due.frame("the same stream", x, 1, 7, 0, 1, 8, 0, 0);
    }

    private static void sizes(Due due) {
        InterleavedLink x = Scenes.responded(3);
        for (int k = 0; k < 4; k++) {
            x.write(0, 1, 0, 8, false);
            x.write(0, 3, 0, 8, false);
            x.write(0, 5, 0, 8, false);
        }
        due.is("the windows of two streams and of the link", x.pump(0, 8), 5);
        due.is("the send window of stream 1", x.window(0, 1, false), 0);
        due.is("the send window of stream 5", x.window(0, 5, false), 8);
        due.is("the send window of the link", x.window(0, 0, false), 0);
        due.is("what waits", x.bytes(0, 5, false), 24);
        x.inject(0, 8, 0, 3, false);
        x.inject(0, 8, 1, 5, false);
        Scenes.drain(x, 0);
        due.is("three bytes of the link", x.pump(0, 8), 1);
        due.frame("as many as the link lets", x, 1, 5, 0, 5, 3, 0, 0);
        x.inject(0, 8, 0, 20, false);
        Scenes.drain(x, 0);
        due.is("all that streams let", x.pump(0, 8), 2);
        due.frame("as many as stream 1 lets", x, 1, 6, 0, 1, 5, 0, 0);
        due.frame("as many as stream 5 lets", x, 1, 7, 0, 5, 5, 0, 0);
    }

    private static void ends(Due due) {
        InterleavedLink x = Scenes.responded(3);
        x.write(0, 1, 0, 8, false);
        x.write(0, 1, 0, 2, true);
        x.write(0, 3, 0, 0, true);
        due.is("pump", x.pump(0, 8), 3);
        due.frame("bytes wait behind it", x, 1, 0, 0, 1, 8, 0, 0);
        due.frame("without bytes", x, 1, 1, 0, 3, 0, 1, 0);
        due.frame("with the last bytes", x, 1, 2, 0, 1, 2, 1, 0);
        due.is("HALF LOCAL", x.state(0, 1), 2);
        due.is("END only once", x.pump(0, 8), 0);
        Scenes.drain(x, 1);
        due.is("HALF REMOTE", x.state(1, 1), 3);
        x.write(1, 1, 0, 1, true);
        due.is("from HALF REMOTE", x.pump(1, 8), 1);
        due.is("CLOSED", x.state(1, 1), 4);
        x.write(0, 5, 0, 1, false);
        x.reset(0, 5, 0);
        due.is("nothing of a cut stream", x.pump(0, 8), 0);
    }

    private static void leastWindows(Due due) {
        InterleavedLink x = Scenes.responded(1);
        x.inject(0, 4, 4, 1, false);
        Scenes.drain(x, 0);
        x.write(0, 1, 0, 8, true);
        due.is("a stream's window of 1", x.pump(0, 8), 1);
        due.frame("one byte", x, 1, 1, 0, 1, 1, 0, 0);
        InterleavedLink y = Scenes.responded(4);
        for (int stream = 1; stream <= 7; stream += 2) {
            y.write(0, stream, 0, 8, false);
            y.write(0, stream, 0, stream == 7 ? 8 : 5, false);
        }
        y.pump(0, 8);
        due.is("the link's window", y.window(0, 0, false), 0);
        y.inject(0, 8, 0, 1, false);
        y.deliver(0);
        due.is("the link's window of 1", y.pump(0, 8), 1);
        due.is("none", y.pump(0, 8), 0);
    }

    private static void negativeWindow(Due due) {
        InterleavedLink x = Scenes.responded(1);
        x.write(0, 1, 0, 8, false);
        x.pump(0, 1);
        x.setting(1, 4, 0);
        Scenes.drain(x, 0);
        due.is("the send window", x.window(0, 1, false), -8);
        x.write(0, 1, 0, 0, true);
        due.is("END needs no window", x.pump(0, 8), 1);
        due.frame("END alone", x, 1, 2, 0, 1, 0, 1, 0);
        due.is("the send window of the link", x.window(0, 0, false), 32);
        due.is("HALF LOCAL", x.window(0, 1, false), -8);
    }

    private static void full(Due due) {
        InterleavedLink x = Scenes.responded(1);
        x.write(0, 1, 0, 8, false);
        x.write(0, 1, 0, 8, false);
        Scenes.fill(x, 1, 29);
        due.is("one place", x.pump(0, 8), 1);
        due.is("no place", x.pump(0, 8), 0);
        due.is("it still waits", x.bytes(0, 1, false), 8);
    }
}
