/** Promise 14. */
public final class WindowTest {
    public static void main(String[] args) {
        Due due = new Due();
        InterleavedLink x = Scenes.responded(2);
        for (int end = 0; end < 2; end++) {
            due.is("of the link", x.window(end, 0, false), 40);
            due.is("of the link", x.window(end, 0, true), 40);
            due.is("of a stream", x.window(end, 1, false), 16);
            due.is("of a stream", x.window(end, 1, true), 16);
            due.is("IDLE", x.window(end, 5, true), 0);
            due.is("no stream", x.window(end, 2, true), 0);
            due.is("no stream", x.window(end, -1, false), 0);
            due.is("no stream", x.window(end, 25, false), 0);
        }
        due.is("end -1", x.window(-1, 0, true), 0);
        due.is("end 2", x.window(2, 0, true), 0);
        x.write(0, 1, 0, 8, false);
        due.is("writing takes nothing", x.window(0, 1, false), 16);
        x.pump(0, 1);
        due.is("sending takes from the stream", x.window(0, 1, false), 8);
        due.is("and from the link", x.window(0, 0, false), 32);
        due.is("not from the receive window", x.window(0, 1, true), 16);
        due.is("not yet from the other's", x.window(1, 1, true), 16);
        x.deliver(1);
        due.is("getting takes from the stream", x.window(1, 1, true), 8);
        due.is("and from the link", x.window(1, 0, true), 32);
        x.reset(0, 1, 0);
        due.is("CLOSED", x.window(0, 1, false), 0);
        due.is("CLOSED", x.window(0, 1, true), 0);
        Scenes.settle(x);
        due.is("given back", x.window(0, 0, false), 40);
        Scenes.fallen(x, 0);
        due.is("a down end", x.window(0, 3, true), 16);
        due.is("a down end", x.window(0, 0, true), 40);
        due.finish();
    }
}
