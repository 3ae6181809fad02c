/** Promise 10: what an end does when it gets HEADERS, but for wrong steps. */
public final class GetHeadersTest {
    public static void main(String[] args) {
        Due due = new Due();
        linkErrors(due);
        newStreams(due);
        oldStreams(due);
        due.finish();
    }

    private static void linkErrors(Due due) {
        for (int stream : new int[] {0, 2, 24, 25, -1, Integer.MIN_VALUE}) {
            for (int end = 0; end < 2; end++) {
                InterleavedLink x = Scenes.requested(1);
                x.inject(end, 1, stream, 1, false);
                due.is("HEADERS on " + stream, x.deliver(end), 101);
                due.frame("FAREWELL", x, 1 - end, 0, 7, 0, 1, 0, 0);
            }
        }
        InterleavedLink x = Scenes.requested(1);
        x.inject(0, 1, 3, 1, false);
        due.is("IDLE at end 0", x.deliver(0), 101);
        InterleavedLink y = Scenes.requested(1);
        y.inject(0, 1, 3, 99, false);
        due.is("before the block is got", y.deliver(0), 101);
    }

    private static void newStreams(Due due) {
        InterleavedLink x = new InterleavedLink();
        x.setting(1, 3, 2);
        Scenes.settle(x);
        x.inject(1, 1, 5, 4, true);
        due.is("a new stream", x.deliver(1), 0);
        due.is("HALF REMOTE", x.state(1, 5), 3);
        due.is("below it", x.state(1, 1), 4);
        due.is("below it", x.state(1, 3), 4);
        due.is("above it", x.state(1, 7), 0);
        due.is("the name", x.field(1, 5, 0, false), 2);
        due.is("the value", x.field(1, 5, 0, true), 20);
        x.inject(1, 1, 9, 1, false);
        due.is("a second", x.deliver(1), 0);
        due.is("OPEN", x.state(1, 9), 1);
        x.inject(1, 1, 13, 1, true);
        due.is("too many", x.deliver(1), 7);
        due.frame("RESET 7", x, 0, 0, 3, 13, 7, 0, 0);
        due.is("CLOSED", x.state(1, 13), 4);
        due.is("no list", x.field(1, 13, 0, true), -1);
        due.is("below it", x.state(1, 11), 4);
        due.is("an ACTIVE one below it stays", x.state(1, 5), 3);
        x.inject(1, 0, 13, 3, false);
        due.is("it is CLOSED BY A CUT", x.deliver(1), 0);
        x.inject(1, 1, 13, 1, false);
        due.is("for HEADERS too", x.deliver(1), 0);
        due.is("still no list", x.field(1, 13, 0, true), -1);
        x.reset(1, 5, 0);
        x.inject(1, 1, 15, 1, false);
        due.is("room again", x.deliver(1), 0);
        x.inject(1, 0, 3, 2, false);
        due.is("DATA on one closed below", x.deliver(1), 5);
        x.inject(1, 1, 1, 1, false);
        due.is("HEADERS on one closed below", x.deliver(1), 105);
        due.is("down", x.down(1), 105);
    }

    private static void oldStreams(Due due) {
        InterleavedLink x = Scenes.responded(4);
        x.write(0, 1, 0, 5, false);
        x.pump(0, 1);
        Scenes.drain(x, 1);
        x.inject(1, 1, 1, 4, false);
        due.is("HEADERS came before", x.deliver(1), 1);
        due.frame("RESET 1", x, 0, 0, 3, 1, 1, 0, 0);
        due.frame("unread given back", x, 0, 1, 8, 0, 5, 0, 0);
        due.is("the first list stays", x.field(1, 1, 0, true), 0);
        x.write(0, 3, 0, 3, true);
        x.pump(0, 1);
        Scenes.settle(x);
        x.inject(1, 1, 3, 4, false);
        due.is("HALF REMOTE", x.deliver(1), 5);
        due.frame("RESET 5", x, 0, 0, 3, 3, 5, 0, 0);
        due.frame("unread given back", x, 0, 1, 8, 0, 3, 0, 0);
        due.is("the window of the link", x.window(1, 0, true), 40);
        Scenes.settle(x);
        x.inject(0, 1, 5, 4, false);
        due.is("twice at end 0", x.deliver(0), 1);
        due.frame("RESET 1 of end 0", x, 1, 0, 3, 5, 1, 0, 0);
        InterleavedLink y = Scenes.requested(3);
        y.inject(0, 1, 1, 5, true);
        due.is("a response", y.deliver(0), 0);
        due.is("HALF REMOTE at end 0", y.state(0, 1), 3);
        due.is("its list", y.field(0, 1, 0, true), 40);
        y.write(0, 1, 0, 0, true);
        y.pump(0, 1);
        due.is("CLOSED BY ITS ENDS", y.state(0, 1), 4);
        y.reset(0, 3, 0);
        y.inject(0, 1, 3, 5, true);
        due.is("CLOSED BY A CUT", y.deliver(0), 0);
        due.is("no list", y.field(0, 3, 0, true), -1);
        y.inject(0, 1, 1, 5, true);
        due.is("on CLOSED BY ITS ENDS", y.deliver(0), 105);
        due.frame("FAREWELL 5", y, 1, 2, 7, 0, 5, 0, 0);
    }
}
