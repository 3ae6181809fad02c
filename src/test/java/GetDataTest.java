/** Promise 10: what an end does when it gets DATA. */
public final class GetDataTest {
    public static void main(String[] args) {
        Due due = new Due();
        linkErrors(due);
        closed(due);
        noHeaders(due);
        windows(due);
        due.finish();
    }

    private static void linkErrors(Due due) {
        for (int stream : new int[] {0, 2, 25, -1, 5}) {
            InterleavedLink x = Scenes.responded(2);
            x.inject(1, 0, stream, 1, false);
            due.is("DATA on " + stream, x.deliver(1), 101);
            due.is("down", x.down(1), 101);
            due.frame("FAREWELL", x, 0, 0, 7, 0, 1, 0, 0);
            due.is("the window of the link", x.window(1, 0, true), 40);
        }
        InterleavedLink x = Scenes.responded(3);
        for (int stream = 1; stream <= 5; stream += 2) {
            x.inject(1, 0, stream, 13, false);
            due.is("13 bytes", x.deliver(1), 0);
        }
        due.is("one byte left", x.window(1, 0, true), 1);
        x.inject(1, 0, 1, 1, false);
        due.is("as much as the link has", x.deliver(1), 0);
        x.inject(1, 0, 1, 0, false);
        due.is("no byte", x.deliver(1), 0);
        x.inject(1, 0, 5, 1, false);
        due.is("above the link's window", x.deliver(1), 103);
        due.frame("FAREWELL 3", x, 0, 0, 7, 0, 3, 0, 0);
        due.is("unread stays", x.bytes(1, 1, true), 14);
    }

    private static void closed(Due due) {
        InterleavedLink x = Scenes.responded(4);
        x.reset(1, 1, 0);
        Scenes.settle(x);
        x.inject(1, 0, 1, 15, true);
        due.is("CLOSED BY A CUT", x.deliver(1), 0);
        due.frame("given back", x, 0, 0, 8, 0, 15, 0, 0);
        due.is("the window", x.window(1, 0, true), 40);
        x.inject(1, 0, 1, 0, true);
        due.is("no byte", x.deliver(1), 0);
        due.is("nothing given back", Scenes.count(x, 0), 1);
        x.write(0, 3, 0, 6, true);
        x.pump(0, 1);
        Scenes.settle(x);
        x.inject(1, 0, 3, 4, false);
        due.is("HALF REMOTE", x.deliver(1), 5);
        due.frame("RESET 5", x, 0, 0, 3, 3, 5, 0, 0);
        due.frame("the unread ones too, in one", x, 0, 1, 8, 0, 10, 0, 0);
        due.is("no more", Scenes.count(x, 0), 2);
        due.is("cut", x.state(1, 3), 4);
        due.is("dropped", x.bytes(1, 3, true), 0);
        Scenes.settle(x);
        byItsEnds(due, x);
    }

    private static void byItsEnds(Due due, InterleavedLink x) {
        x.write(0, 5, 0x55, 2, true);
        x.pump(0, 1);
        x.write(1, 5, 0, 0, true);
        x.pump(1, 1);
        Scenes.settle(x);
        due.is("CLOSED BY ITS ENDS", x.state(1, 5), 4);
        due.is("unread", x.bytes(1, 5, true), 2);
        x.inject(1, 0, 5, 0, false);
        due.is("on CLOSED BY ITS ENDS", x.deliver(1), 5);
        due.frame("RESET 5", x, 0, 0, 3, 5, 5, 0, 0);
        due.frame("unread given back", x, 0, 1, 8, 0, 2, 0, 0);
        x.inject(1, 0, 5, 1, false);
        due.is("now CLOSED BY A CUT", x.deliver(1), 0);
        x.inject(1, 1, 5, 1, false);
        due.is("for HEADERS too", x.deliver(1), 0);
    }

    private static void noHeaders(Due due) {
        InterleavedLink x = Scenes.requested(2);
        x.inject(0, 0, 1, 3, false);
        due.is("no HEADERS came", x.deliver(0), 1);
        due.frame("RESET 1", x, 1, 0, 3, 1, 1, 0, 0);
        due.frame("given back", x, 1, 1, 8, 0, 3, 0, 0);
        due.is("CLOSED", x.state(0, 1), 4);
        x.inject(0, 0, 3, 15, false);
        x.inject(0, 0, 3, 0, true);
        due.is("before the window is looked at", x.deliver(0), 1);
    }

    private static void windows(Due due) {
        InterleavedLink x = Scenes.responded(3);
        x.inject(1, 0, 1, 15, false);
        x.inject(1, 0, 1, 1, true);
        due.is("15 of 16", x.deliver(1), 0);
        due.is("1 of 1", x.deliver(1), 0);
        due.is("END", x.state(1, 1), 3);
        due.is("the receive window", x.window(1, 1, true), 0);
        due.is("the link's", x.window(1, 0, true), 24);
        due.is("unread", x.bytes(1, 1, true), 16);
        x.inject(1, 0, 3, 10, false);
        x.inject(1, 0, 3, 7, true);
        due.is("10 of 16", x.deliver(1), 0);
        due.is("7 of 6", x.deliver(1), 3);
        due.frame("RESET 3", x, 0, 0, 3, 3, 3, 0, 0);
        due.frame("both given back", x, 0, 1, 8, 0, 17, 0, 0);
        due.is("CLOSED", x.state(1, 3), 4);
        x.inject(1, 0, 1, 0, false);
        due.is("HALF REMOTE, no byte", x.deliver(1), 5);
        x.inject(1, 0, 5, 10, false);
        x.deliver(1);
        x.setting(1, 4, 10);
        Scenes.settle(x);
        due.is("none left", x.window(1, 5, true), 0);
        x.setting(1, 4, 0);
        Scenes.settle(x);
        due.is("below 0", x.window(1, 5, true), -10);
        x.inject(1, 0, 5, 0, true);
        due.is("no byte is never above", x.deliver(1), 0);
        due.is("END got", x.state(1, 5), 3);
        InterleavedLink y = Scenes.responded(1);
        y.setting(1, 4, 0);
        Scenes.settle(y);
        y.inject(1, 0, 1, 1, false);
        due.is("1 of 0", y.deliver(1), 3);
    }
}
