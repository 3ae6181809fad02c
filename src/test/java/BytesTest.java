/** Promise 15. */
public final class BytesTest {
    public static void main(String[] args) {
        Due due = new Due();
        InterleavedLink x = Scenes.responded(1);
        due.is("end -1", x.bytes(-1, 1, true), -1);
        due.is("end 2", x.bytes(2, 1, true), -1);
        due.is("stream 0", x.bytes(0, 0, true), -1);
        due.is("stream 2", x.bytes(0, 2, false), -1);
        due.is("stream 25", x.bytes(0, 25, false), -1);
        due.is("IDLE", x.bytes(0, 23, false), 0);
        x.write(0, 1, 0, 8, false);
        x.write(0, 1, 0, 4, false);
        due.is("they wait", x.bytes(0, 1, false), 12);
        due.is("none unread here", x.bytes(0, 1, true), 0);
        x.pump(0, 1);
        due.is("fewer wait", x.bytes(0, 1, false), 4);
        due.is("not yet unread", x.bytes(1, 1, true), 0);
        x.deliver(1);
        due.is("unread", x.bytes(1, 1, true), 8);
        due.is("none wait there", x.bytes(1, 1, false), 0);
        x.read(1, 1, 3);
        due.is("fewer unread", x.bytes(1, 1, true), 5);
        Scenes.fallen(x, 1);
        due.is("a down end", x.bytes(1, 1, true), 5);
        x.reset(0, 1, 1);
        due.is("dropped", x.bytes(0, 1, false), 0);
        due.finish();
    }
}
