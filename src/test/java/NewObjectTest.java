/** Promise 1. */
public final class NewObjectTest {
    public static void main(String[] args) {
        Due due = new Due();
        InterleavedLink used = Scenes.responded(3);
        Scenes.fallen(used, 1);
        InterleavedLink x = new InterleavedLink();
        for (int end = 0; end < 2; end++) {
            due.is("down", x.down(end), 0);
            due.is("frame", x.frame(end, 0, 0), -1);
            due.is("deliver", x.deliver(end), -1);
            due.is("send window", x.window(end, 0, false), 40);
            due.is("receive window", x.window(end, 0, true), 40);
            for (int stream = 1; stream <= 23; stream += 2) {
                due.is("state", x.state(end, stream), 0);
                due.is("waiting", x.bytes(end, stream, false), 0);
                due.is("unread", x.bytes(end, stream, true), 0);
                due.is("field", x.field(end, stream, 0, true), -1);
                due.is("window", x.window(end, stream, false), 0);
            }
            for (int getting = 0; getting < 2; getting++) {
                due.is("field of a table", x.table(end, getting == 1, 0), 0);
                due.is("sum of a table", x.table(end, getting == 1, -1), 0);
                due.is("maximum of a table", x.table(end, getting == 1, -2), 100);
            }
        }
        due.is("request without a list", x.request(true), -1);
        due.is("header", x.header(0, 1, 1, false), 1);
        due.is("header", x.header(1, 1, 1, false), 1);
        due.finish();
    }
}
