/** Promise 8. */
public final class ResetTest {
    public static void main(String[] args) {
        Due due = new Due();
        InterleavedLink x = Scenes.responded(4);
        due.no("end 2", x.reset(2, 1, 0));
        due.no("no stream", x.reset(0, 2, 0));
        due.no("stream 0", x.reset(0, 0, 0));
        due.no("IDLE", x.reset(0, 9, 0));
        due.no("code -1", x.reset(0, 1, -1));
        due.no("code 16", x.reset(0, 1, 16));
        due.yes("code 15", x.reset(0, 1, 15));
        due.frame("RESET 15", x, 1, 0, 3, 1, 15, 0, 0);
        due.is("nothing unread, nothing given back", Scenes.count(x, 1), 1);
        due.is("CLOSED", x.state(0, 1), 4);
        due.no("CLOSED", x.reset(0, 1, 0));
        x.write(0, 3, 0, 5, false);
        x.pump(0, 1);
        Scenes.drain(x, 1);
        x.write(1, 3, 0, 4, false);
        due.is("the link's window", x.window(1, 0, true), 35);
        due.yes("with unread bytes, code 0", x.reset(1, 3, 0));
        due.frame("RESET 0", x, 0, 0, 3, 3, 0, 0, 0);
        due.frame("WINDOW 5", x, 0, 1, 8, 0, 5, 0, 0);
        due.is("the link's window", x.window(1, 0, true), 40);
        due.is("unread dropped", x.bytes(1, 3, true), 0);
        due.is("waiting dropped", x.bytes(1, 3, false), 0);
        Scenes.settle(x);
        due.is("CLOSED at the other end", x.state(0, 3), 4);
        x.write(0, 5, 0, 0, true);
        x.pump(0, 1);
        Scenes.settle(x);
        due.yes("HALF REMOTE", x.reset(1, 5, 1));
        due.yes("HALF LOCAL", x.reset(0, 5, 1));
        Scenes.fill(x, 1, 30);
        due.no("FULL", x.reset(0, 7, 1));
        due.is("nothing changed", x.state(0, 7), 1);
        x.deliver(1);
        due.yes("29 frames", x.reset(0, 7, 1));
        Scenes.fallen(x, 1);
        due.no("down", x.reset(1, 7, 1));
        due.finish();
    }
}
