/** Promise 10: what an end does when it gets RESET, SETTINGS, FAREWELL or WINDOW. */
public final class GetOthersTest {
    public static void main(String[] args) {
        Due due = new Due();
        resets(due);
        acks(due);
        settings(due);
        farewell(due);
        linkWindow(due);
        streamWindow(due);
        due.finish();
    }

    private static int got(InterleavedLink x, int end, int kind, int stream, int number) {
        x.inject(end, kind, stream, number, false);
        return x.deliver(end);
    }

    private static void resets(Due due) {
        for (int stream : new int[] {0, 2, 25, -3, 5}) {
            due.is("RESET on " + stream, got(Scenes.requested(2), 1, 3, stream, 1), 101);
        }
        InterleavedLink x = Scenes.responded(2);
        x.write(0, 1, 0, 4, false);
        x.pump(0, 1);
        Scenes.drain(x, 1);
        x.write(1, 1, 0, 4, false);
        due.is("RESET", got(x, 1, 3, 1, -77), 0);
        due.is("CLOSED", x.state(1, 1), 4);
        due.is("nothing waits", x.bytes(1, 1, false), 0);
        due.frame("unread given back", x, 0, 0, 8, 0, 4, 0, 0);
        due.is("no RESET is sent", Scenes.count(x, 0), 1);
        due.is("RESET on CLOSED", got(x, 1, 3, 1, 1), 0);
        due.is("it is CLOSED BY A CUT", got(x, 1, 1, 1, 1), 0);
        due.is("up", x.down(1), 0);
        InterleavedLink y = Scenes.responded(1);
        y.write(0, 1, 0, 3, true);
        y.pump(0, 1);
        y.write(1, 1, 0, 0, true);
        y.pump(1, 1);
        Scenes.settle(y);
        due.is("RESET on CLOSED BY ITS ENDS", got(y, 1, 3, 1, 1), 0);
        due.is("unread stays", y.bytes(1, 1, true), 3);
        due.is("it stays CLOSED BY ITS ENDS", got(y, 1, 1, 1, 1), 105);
    }

    private static void acks(Due due) {
        InterleavedLink x = new InterleavedLink();
        x.inject(0, 4, 7, 7, true);
        due.frame("ACK", x, 0, 0, 4, 0, 0, 1, 0);
        due.is("no SETTINGS without ACK", x.deliver(0), 101);
        InterleavedLink y = Scenes.requested(1);
        y.setting(0, 4, 30);
        y.setting(0, 4, 20);
        y.inject(0, 4, 0, 0, true);
        due.is("an ACK before its time", y.deliver(0), 0);
        due.is("the oldest is in force", y.window(0, 1, true), 30);
        y.inject(0, 4, 0, 0, true);
        due.is("another", y.deliver(0), 0);
        due.is("the next is in force", y.window(0, 1, true), 20);
        due.is("no ACK for an ACK", Scenes.count(y, 1), 2);
        y.deliver(1);
        due.is("one too many", y.deliver(0), 101);
        InterleavedLink z = Scenes.requested(1);
        z.setting(0, 1, 5);
        z.setting(0, 4, 6);
        z.setting(0, 3, 7);
        z.setting(0, 4, 8);
        int[] receive = {16, 6, 6, 8};
        for (int k = 0; k < 4; k++) {
            z.inject(0, 4, 0, 0, true);
            z.deliver(0);
            due.is("in the order of the SETTINGS", z.window(0, 1, true), receive[k]);
        }
    }

    private static void settings(Due due) {
        int[][] wrong = {{1, -1, 101}, {1, 201, 101}, {3, -1, 101}, {3, 13, 101}, {4, -1, 103}, {4, 65, 103},
            {4, Integer.MAX_VALUE, 103}, {1, Integer.MIN_VALUE, 101}};
        for (int[] row : wrong) {
            InterleavedLink x = new InterleavedLink();
            due.is("setting " + row[0] + " with " + row[1], got(x, 0, 4, row[0], row[1]), row[2]);
            due.frame("FAREWELL, no ACK", x, 1, 0, 7, 0, row[2] - 100, 0, 0);
            due.is("only that", Scenes.count(x, 1), 1);
        }
        int[][] right = {{1, 0}, {1, 200}, {3, 0}, {3, 12}, {4, 0}, {4, 64}, {0, -1}, {2, 999}, {5, 65}, {-1, -1}};
        for (int[] row : right) {
            InterleavedLink x = new InterleavedLink();
            due.is("setting " + row[0] + " with " + row[1], got(x, 1, 4, row[0], row[1]), 0);
            due.frame("ACK", x, 0, 0, 4, 0, 0, 1, 0);
        }
        InterleavedLink x = Scenes.requested(1);
        got(x, 0, 4, 4, 64);
        got(x, 0, 4, 4, 60);
        due.is("by the change", x.window(0, 1, false), 60);
        got(x, 0, 8, 1, 140);
        got(x, 0, 4, 4, 64);
        due.is("a setting may go above 200", x.window(0, 1, false), 204);
    }

    private static void farewell(Due due) {
        for (int code = 0; code <= 15; code += 5) {
            InterleavedLink x = Scenes.requested(1);
            due.is("FAREWELL", got(x, 0, 7, 0, code), 0);
            due.is("down", x.down(0), 200 + code);
            due.is("nothing sent", x.frame(1, 0, 0), -1);
            due.is("the streams stay", x.state(0, 1), 1);
            due.is("another is dropped", got(x, 0, 7, 0, 9), 0);
            due.is("still the first", x.down(0), 200 + code);
            due.is("RESET is dropped", got(x, 0, 3, 1, 1), 0);
            due.is("the stream stays", x.state(0, 1), 1);
        }
    }

    private static void linkWindow(Due due) {
        InterleavedLink x = new InterleavedLink();
        due.is("to 200", got(x, 0, 8, 0, 160), 0);
        due.is("200", x.window(0, 0, false), 200);
        due.is("the receive window", x.window(0, 0, true), 40);
        due.is("above 200", got(x, 0, 8, 0, 1), 103);
        due.is("0", got(new InterleavedLink(), 1, 8, 0, 0), 101);
        due.is("below 0", got(new InterleavedLink(), 1, 8, 0, -5), 101);
        due.is("the least", got(new InterleavedLink(), 1, 8, 0, Integer.MIN_VALUE), 101);
        due.is("the most", got(new InterleavedLink(), 1, 8, 0, Integer.MAX_VALUE), 103);
    }

    private static void streamWindow(Due due) {
        for (int stream : new int[] {-1, 2, 24, 25, 5}) {
            due.is("WINDOW on " + stream, got(Scenes.requested(2), 1, 8, stream, 1), 101);
        }
        InterleavedLink x = Scenes.responded(4);
        x.write(0, 1, 0, 6, false);
        x.pump(0, 1);
        Scenes.drain(x, 1);
        due.is("to 200", got(x, 1, 8, 1, 184), 0);
        due.is("200", x.window(1, 1, false), 200);
        due.is("above 200", got(x, 1, 8, 1, 1), 3);
        due.frame("RESET 3", x, 0, 0, 3, 1, 3, 0, 0);
        due.frame("unread given back", x, 0, 1, 8, 0, 6, 0, 0);
        due.is("on CLOSED", got(x, 1, 8, 1, 0), 0);
        got(x, 1, 0, 3, 7);
        due.is("0", got(x, 1, 8, 3, 0), 1);
        due.frame("RESET 1", x, 0, 2, 3, 3, 1, 0, 0);
        due.frame("unread given back", x, 0, 3, 8, 0, 7, 0, 0);
        due.is("no more", Scenes.count(x, 0), 4);
        due.is("the most", got(x, 1, 8, 5, Integer.MAX_VALUE), 3);
        due.is("the least", got(x, 1, 8, 7, Integer.MIN_VALUE), 1);
        due.is("the link's window stays", x.window(1, 0, false), 40);
    }
}
