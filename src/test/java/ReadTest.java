/** Promise 7. */
public final class ReadTest {
    public static void main(String[] args) {
        Due due = new Due();
        InterleavedLink x = Scenes.responded(2);
        x.write(0, 1, 0x8F7F6F5F4F3F2FFFL, 8, false);
        x.write(0, 1, 0xAA, 1, false);
        x.pump(0, 8);
        Scenes.drain(x, 1);
        due.is("end 2", x.read(2, 1, 1), -1);
        due.is("no stream", x.read(1, 6, 1), -1);
        due.is("stream 0", x.read(1, 0, 1), -1);
        due.is("IDLE", x.read(1, 5, 1), -1);
        due.is("n 0", x.read(1, 1, 0), -1);
        due.is("n 8", x.read(1, 1, 8), -1);
        due.is("nothing unread", x.read(1, 3, 7), 0);
        due.is("nothing sent", x.frame(0, 0, 0), -1);
        due.is("one byte", x.read(1, 1, 1), 0xFF);
        due.frame("the link first", x, 0, 0, 8, 0, 1, 0, 0);
        due.frame("then the stream", x, 0, 1, 8, 1, 1, 0, 0);
        due.is("the link's window", x.window(1, 0, true), 32);
        due.is("the stream's window", x.window(1, 1, true), 8);
        due.is("seven bytes", x.read(1, 1, 7), 0x8F7F6F5F4F3F2FL);
        due.is("fewer than n", x.read(1, 1, 7), 0xAA);
        due.frame("as many as taken", x, 0, 5, 8, 1, 1, 0, 0);
        due.is("all given back", x.window(1, 0, true), 40);
        due.is("to the stream too", x.window(1, 1, true), 16);
        Scenes.settle(x);
        due.is("the send window of the link", x.window(0, 0, false), 40);
        due.is("the send window of the stream", x.window(0, 1, false), 16);
        halfAndClosed(due);
        full(due);
        due.finish();
    }

    private static void halfAndClosed(Due due) {
        InterleavedLink x = Scenes.responded(2);
        x.write(0, 1, 0x0605040302FFL, 6, true);
        x.pump(0, 8);
        Scenes.drain(x, 1);
        due.is("HALF REMOTE", x.read(1, 1, 2), 0x02FF);
        due.is("only the link's", Scenes.count(x, 0), 1);
        due.is("the window stays", x.window(1, 1, true), 10);
        x.write(1, 1, 0, 0, true);
        x.pump(1, 1);
        due.is("CLOSED", x.state(1, 1), 4);
        due.is("unread on CLOSED", x.read(1, 1, 2), 0x0403);
        due.frame("given back", x, 0, 2, 8, 0, 2, 0, 0);
        due.is("only the link's again", Scenes.count(x, 0), 3);
        x.write(0, 3, 0, 0, true);
        x.pump(0, 1);
        x.write(1, 3, 0xC3, 1, false);
        x.pump(1, 1);
        Scenes.settle(x);
        due.is("HALF LOCAL", x.state(0, 3), 2);
        due.is("on HALF LOCAL", x.read(0, 3, 7), 0xC3);
        due.frame("for the stream too", x, 1, 1, 8, 3, 1, 0, 0);
        Scenes.fallen(x, 1);
        due.is("down", x.read(1, 1, 2), -1);
        due.is("still unread", x.bytes(1, 1, true), 2);
    }

    private static void full(Due due) {
        InterleavedLink x = Scenes.responded(1);
        x.write(0, 1, 7, 1, false);
        x.pump(0, 1);
        Scenes.drain(x, 1);
        Scenes.fill(x, 0, 30);
        due.is("NONE before FULL", x.read(1, 3, 1), -1);
        due.is("FULL", x.read(1, 1, 1), -2);
        due.is("nothing taken", x.bytes(1, 1, true), 1);
        x.deliver(0);
        due.is("29 frames", x.read(1, 1, 1), 7);
        due.is("31 frames", Scenes.count(x, 0), 31);
        due.is("FULL with nothing unread", x.read(1, 1, 1), -2);
    }
}
