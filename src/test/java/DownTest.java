/** Promise 18, and what a down end refuses. */
public final class DownTest {
    public static void main(String[] args) {
        Due due = new Due();
        InterleavedLink x = Scenes.responded(1);
        due.is("end -1", x.down(-1), -1);
        due.is("end 2", x.down(2), -1);
        due.is("up", x.down(0), 0);
        x.write(1, 1, 0, 2, false);
        x.pump(1, 1);
        Scenes.settle(x);
        x.header(0, 1, 1, false);
        x.inject(0, 8, 0, 999, false);
        due.is("a link error", x.deliver(0), 103);
        due.is("down by an error", x.down(0), 103);
        due.is("the other is up", x.down(1), 0);
        due.is("header", x.header(0, 1, 1, false), -1);
        due.is("request", x.request(false), -1);
        due.is("write", x.write(0, 1, 1, 1, false), -1);
        due.is("pump", x.pump(0, 1), -1);
        due.is("read", x.read(0, 1, 1), -1);
        due.no("reset", x.reset(0, 1, 1));
        due.no("setting", x.setting(0, 4, 1));
        due.is("only FAREWELL was sent", Scenes.count(x, 1), 1);
        due.is("the other goes on", x.write(1, 1, 1, 1, false), 1);
        due.is("and sends", x.pump(1, 1), 1);
        due.is("what comes is dropped", x.deliver(0), 0);
        due.is("unread as before", x.bytes(0, 1, true), 2);
        due.is("FAREWELL", x.deliver(1), 0);
        due.is("down by FAREWELL", x.down(1), 203);
        due.is("respond", x.respond(1, true), -1);
        due.no("reset at end 1", x.reset(1, 1, 1));
        due.finish();
    }
}
