/** Promise 3. */
public final class RequestTest {
    public static void main(String[] args) {
        Due due = new Due();
        numbers(due);
        mostStreams(due);
        refused(due);
        due.finish();
    }

    private static void numbers(Due due) {
        InterleavedLink x = new InterleavedLink();
        due.is("an empty list", x.request(false), -1);
        for (int stream = 1; stream <= 23; stream += 2) {
            boolean last = stream % 4 == 3;
            x.header(0, 9, stream, true);
            due.is("request", x.request(last), stream);
            due.is("state", x.state(0, stream), last ? 2 : 1);
            due.is("send window", x.window(0, stream, false), 16);
            due.is("receive window", x.window(0, stream, true), 16);
            due.frame("the frame", x, 1, stream / 2, 1, stream, 1, last ? 1 : 0, 0);
            due.is("the list is empty", x.request(false), -1);
        }
        Scenes.settle(x);
        x.reset(0, 1, 0);
        due.is("23 was opened", Scenes.request(x, false), -1);
        due.is("the list is still there", x.header(0, 1, 1, false), 2);
    }

    private static void mostStreams(Due due) {
        InterleavedLink x = new InterleavedLink();
        x.setting(1, 3, 2);
        due.is("before it is told", Scenes.request(x, true), 1);
        Scenes.settle(x);
        due.is("the second", Scenes.request(x, true), 3);
        due.is("the third", Scenes.request(x, true), -1);
        Scenes.settle(x);
        due.yes("one is cut", x.reset(0, 1, 0));
        due.is("room again", x.request(true), 5);
        x.setting(1, 3, 0);
        Scenes.settle(x);
        x.reset(0, 3, 0);
        x.reset(0, 5, 0);
        due.is("none may be opened", Scenes.request(x, true), -1);
        x.setting(0, 3, 12);
        Scenes.settle(x);
        due.is("that of end 0 does not count", x.request(true), -1);
    }

    private static void refused(Due due) {
        InterleavedLink x = new InterleavedLink();
        Scenes.fill(x, 1, 30);
        due.is("NONE before FULL", x.request(false), -1);
        due.is("FULL", Scenes.request(x, false), -2);
        due.is("nothing opened", x.state(0, 1), 0);
        x.deliver(1);
        due.is("29 frames", x.request(false), 1);
        Scenes.fallen(x, 0);
        due.is("down", Scenes.request(x, false), -1);
    }
}
