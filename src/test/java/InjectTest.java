/** Promise 11. */
public final class InjectTest {
    public static void main(String[] args) {
        Due due = new Due();
        InterleavedLink x = new InterleavedLink();
        due.no("end -1", x.inject(-1, 0, 1, 1, false));
        due.no("end 2", x.inject(2, 0, 1, 1, false));
        for (int kind : new int[] {-1, 2, 5, 6, 9, Integer.MAX_VALUE}) {
            due.no("kind " + kind, x.inject(0, kind, 1, 1, false));
        }
        for (int kind : new int[] {0, 7}) {
            due.no("x -1", x.inject(0, kind, 1, -1, false));
            due.no("x 16", x.inject(0, kind, 1, 16, false));
        }
        due.is("nothing there", x.frame(0, 0, 0), -1);
        kinds(due);
        limits(due);
        due.finish();
    }

    private static void kinds(Due due) {
        InterleavedLink x = new InterleavedLink();
        int far = Integer.MIN_VALUE;
        due.yes("DATA 0", x.inject(1, 0, far, 0, false));
        due.yes("DATA 15", x.inject(1, 0, 3, 15, true));
        due.yes("HEADERS", x.inject(1, 1, far, 77, false));
        due.yes("HEADERS with END", x.inject(1, 1, 4, -77, true));
        due.yes("RESET", x.inject(1, 3, far, far, true));
        due.yes("SETTINGS", x.inject(1, 4, far, 5, false));
        due.yes("ACK", x.inject(1, 4, 4, 5, true));
        due.yes("FAREWELL", x.inject(1, 7, 5, 15, true));
        due.yes("WINDOW", x.inject(1, 8, far, far, true));
        due.frame("DATA 0", x, 1, 0, 0, far, 0, 0, 0);
        due.frame("DATA 15", x, 1, 1, 0, 3, 15, 1, 0);
        due.frame("HEADERS", x, 1, 2, 1, far, 1, 0, 77);
        due.frame("HEADERS with END", x, 1, 3, 1, 4, 1, 1, -77);
        due.frame("RESET", x, 1, 4, 3, far, far, 0, 0);
        due.frame("SETTINGS", x, 1, 5, 4, 0, 5, 0, far);
        due.frame("ACK", x, 1, 6, 4, 0, 0, 1, 0);
        due.frame("FAREWELL", x, 1, 7, 7, 0, 15, 0, 0);
        due.frame("WINDOW", x, 1, 8, 8, far, far, 0, 0);
        due.is("no other", Scenes.count(x, 1), 9);
        due.is("none the other way", Scenes.count(x, 0), 0);
    }

    private static void limits(Due due) {
        InterleavedLink x = Scenes.responded(1);
        for (int k = 0; k < 30; k++) {
            due.yes("frame " + k, x.inject(0, 8, 0, 1, false));
        }
        due.no("a 31st", x.inject(0, 8, 0, 1, false));
        due.yes("the other pipe", x.inject(1, 0, 1, 4, false));
        x.deliver(1);
        due.is("the bytes are 0", x.read(1, 1, 7), -2);
        x.deliver(0);
        due.is("the bytes are 0", x.read(1, 1, 7), 0);
        due.is("they were there", x.frame(0, 29, 2), 4);
        InterleavedLink y = Scenes.fallen(Scenes.fallen(new InterleavedLink(), 0), 1);
        Scenes.drain(y, 0);
        Scenes.drain(y, 1);
        due.yes("towards an end that is down", y.inject(0, 8, 0, 1, false));
        due.is("it is there", y.frame(0, 0, 0), 8);
    }
}
