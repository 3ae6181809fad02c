/** Promise 5. */
public final class WriteTest {
    public static void main(String[] args) {
        Due due = new Due();
        InterleavedLink x = Scenes.requested(2);
        due.is("end 2", x.write(2, 1, 1, 1, false), -1);
        due.is("no stream", x.write(0, 4, 1, 1, false), -1);
        due.is("stream 0", x.write(0, 0, 1, 1, false), -1);
        due.is("IDLE", x.write(0, 5, 1, 1, false), -1);
        due.is("n -1", x.write(0, 1, 1, -1, false), -1);
        due.is("n 9", x.write(0, 1, 1, 9, false), -1);
        due.is("n 0", x.write(0, 1, 1, 0, false), 0);
        due.is("end 1 before it responds", x.write(1, 1, 1, 1, false), -1);
        Scenes.respond(x, 1, false);
        due.is("end 1 after it", x.write(1, 1, 1, 1, false), 1);
        for (int k = 1; k <= 4; k++) {
            due.is("eight more", x.write(0, 1, k, 8, false), 8 * k);
        }
        due.is("a 33rd", x.write(0, 1, 1, 1, false), -1);
        due.is("none more at 32", x.write(0, 1, 1, 0, false), 32);
        due.is("last at 32", x.write(0, 1, 1, 0, true), 32);
        due.is("behind last", x.write(0, 1, 1, 0, false), -1);
        due.is("last twice", x.write(0, 1, 1, 0, true), -1);
        x.setting(1, 3, 9);
        Scenes.settle(x);
        Scenes.respond(x, 3, true);
        due.is("last said by the HEADERS", x.write(1, 3, 1, 1, false), -1);
        due.is("a request with last", x.write(0, Scenes.request(x, true), 1, 1, false), -1);
        Scenes.settle(x);
        due.is("on HALF REMOTE", x.write(0, 3, 1, 1, true), 1);
        x.pump(0, 8);
        due.is("on CLOSED", x.write(0, 3, 1, 1, true), -1);
        order(due);
        due.finish();
    }

    private static void order(Due due) {
        InterleavedLink x = Scenes.responded(1);
        due.is("first", x.write(1, 1, 0xFFEE030201L, 3, false), 3);
        due.is("second", x.write(1, 1, -2, 1, false), 4);
        due.is("all eight", x.write(1, 1, 0x8877665544332211L, 8, false), 12);
        due.is("pump", x.pump(1, 8), 2);
        Scenes.drain(x, 0);
        due.is("the first seven", x.read(0, 1, 7), 0x332211FE030201L);
        due.is("the rest", x.read(0, 1, 7), 0x8877665544L);
        Scenes.fallen(x, 1);
        due.is("down", x.write(1, 1, 1, 1, false), -1);
    }
}
