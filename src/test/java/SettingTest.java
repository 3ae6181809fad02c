/** Promise 9, and when a setting is told and in force. */
public final class SettingTest {
    public static void main(String[] args) {
        Due due = new Due();
        ranges(due);
        pending(due);
        firstWindow(due);
        mostStreams(due);
        due.finish();
    }

    private static void ranges(Due due) {
        InterleavedLink x = new InterleavedLink();
        due.no("end -1", x.setting(-1, 1, 1));
        due.no("setting 0", x.setting(0, 0, 1));
        due.no("setting 2", x.setting(0, 2, 1));
        due.no("setting 5", x.setting(0, 5, 1));
        int[][] tops = {{1, 200}, {3, 12}, {4, 64}};
        for (int[] top : tops) {
            due.no("below 0", x.setting(0, top[0], -1));
            due.no("above " + top[1], x.setting(0, top[0], top[1] + 1));
            due.yes("0", x.setting(0, top[0], 0));
            due.yes("the top", x.setting(0, top[0], top[1]));
        }
        due.frame("the first", x, 1, 0, 4, 0, 0, 0, 1);
        due.frame("the last", x, 1, 5, 4, 0, 64, 0, 4);
        due.is("no other", Scenes.count(x, 1), 6);
    }

    private static void pending(Due due) {
        InterleavedLink x = new InterleavedLink();
        for (int k = 0; k < 8; k++) {
            due.yes("setting", x.setting(0, 1, k));
        }
        due.no("a ninth", x.setting(0, 1, 8));
        due.yes("the other end has its own", x.setting(1, 1, 8));
        Scenes.drain(x, 1);
        due.no("before the ACK", x.setting(0, 1, 8));
        x.deliver(0);
        due.no("SETTINGS are no ACK", x.setting(0, 1, 8));
        due.frame("ACK", x, 0, 0, 4, 0, 0, 1, 0);
        x.deliver(0);
        due.yes("after an ACK", x.setting(0, 1, 8));
        due.no("eight again", x.setting(0, 1, 8));
        InterleavedLink y = new InterleavedLink();
        Scenes.fill(y, 1, 30);
        due.no("FULL", y.setting(0, 1, 8));
        y.deliver(1);
        due.yes("29 frames", y.setting(0, 1, 8));
        Scenes.fallen(y, 0);
        due.no("down", y.setting(0, 1, 8));
    }

    private static void firstWindow(Due due) {
        InterleavedLink x = Scenes.responded(3);
        x.write(0, 1, 0, 0, true);
        x.pump(0, 1);
        x.reset(0, 3, 0);
        Scenes.settle(x);
        x.setting(1, 4, 20);
        x.setting(1, 4, 9);
        due.is("not yet in force", x.window(1, 5, true), 16);
        x.deliver(0);
        due.is("told", x.window(0, 5, false), 20);
        due.is("told to a HALF LOCAL stream", x.window(0, 1, false), 20);
        due.is("a CLOSED stream", x.window(0, 3, false), 0);
        due.is("the receive window there stays", x.window(0, 5, true), 16);
        x.deliver(1);
        due.is("in force", x.window(1, 5, true), 20);
        due.is("in force on HALF REMOTE", x.window(1, 1, true), 20);
        due.is("the send window here stays", x.window(1, 5, false), 16);
        due.is("the link's window", x.window(1, 0, true), 40);
        Scenes.request(x, false);
        x.deliver(1);
        due.is("a new stream, by what is told", x.window(0, 7, false), 20);
        due.is("a new stream, by what is in force", x.window(1, 7, true), 20);
        Scenes.settle(x);
        due.is("the second", x.window(0, 7, false), 9);
        due.is("the second in force", x.window(1, 7, true), 9);
        due.is("the other way", x.window(1, 7, false), 16);
        x.setting(0, 4, 64);
        Scenes.settle(x);
        due.is("of end 0, told", x.window(1, 7, false), 64);
        due.is("of end 0, in force", x.window(0, 7, true), 64);
        Scenes.request(x, false);
        Scenes.settle(x);
        due.is("opened later, receive window", x.window(0, 9, true), 64);
        due.is("opened later, send window", x.window(1, 9, false), 64);
    }

    private static void mostStreams(Due due) {
        InterleavedLink x = new InterleavedLink();
        x.setting(1, 3, 1);
        Scenes.request(x, false);
        Scenes.request(x, false);
        Scenes.request(x, false);
        due.is("not in force", x.deliver(1), 0);
        due.is("not in force yet", x.deliver(1), 0);
        x.inject(1, 4, 0, 0, true);
        Scenes.request(x, false);
        due.is("still not", x.deliver(1), 0);
        due.is("the ACK", x.deliver(1), 0);
        due.is("in force", x.deliver(1), 7);
        InterleavedLink y = new InterleavedLink();
        y.setting(0, 3, 0);
        Scenes.settle(y);
        due.is("that of end 0 counts nowhere", Scenes.request(y, false), 1);
        due.is("nor at end 1", y.deliver(1), 0);
    }
}
