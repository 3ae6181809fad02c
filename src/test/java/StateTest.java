/** Promise 13. */
public final class StateTest {
    public static void main(String[] args) {
        Due due = new Due();
        InterleavedLink x = new InterleavedLink();
        for (int stream = -1; stream <= 25; stream++) {
            boolean is = stream > 0 && stream < 24 && stream % 2 == 1;
            due.is("stream " + stream, x.state(0, stream), is ? 0 : -1);
            due.is("stream " + stream, x.state(1, stream), is ? 0 : -1);
        }
        due.is("end -1", x.state(-1, 1), -1);
        due.is("end 2", x.state(2, 1), -1);
        due.is("far", x.state(0, Integer.MIN_VALUE), -1);
        due.is("far", x.state(0, Integer.MAX_VALUE), -1);
        Scenes.request(x, true);
        due.is("HALF LOCAL", x.state(0, 1), 2);
        due.is("still IDLE", x.state(1, 1), 0);
        Scenes.request(x, false);
        due.is("OPEN", x.state(0, 3), 1);
        Scenes.settle(x);
        due.is("HALF REMOTE", x.state(1, 1), 3);
        due.is("OPEN", x.state(1, 3), 1);
        Scenes.respond(x, 1, true);
        due.is("CLOSED by having sent END", x.state(1, 1), 4);
        due.is("not yet", x.state(0, 1), 2);
        Scenes.settle(x);
        due.is("CLOSED by having got END", x.state(0, 1), 4);
        Scenes.respond(x, 3, false);
        x.write(1, 3, 0, 1, true);
        x.pump(1, 1);
        due.is("HALF LOCAL by DATA", x.state(1, 3), 2);
        Scenes.settle(x);
        due.is("HALF REMOTE by DATA", x.state(0, 3), 3);
        x.write(0, 3, 0, 1, true);
        x.pump(0, 1);
        due.is("CLOSED by DATA", x.state(0, 3), 4);
        Scenes.settle(x);
        due.is("CLOSED by DATA got", x.state(1, 3), 4);
        Scenes.request(x, false);
        Scenes.fallen(x, 0);
        due.is("it stays when the end is down", x.state(0, 5), 1);
        due.finish();
    }
}
