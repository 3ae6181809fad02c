/** Promise 12. */
public final class FrameTest {
    public static void main(String[] args) {
        Due due = new Due();
        InterleavedLink x = Scenes.responded(1);
        x.setting(0, 4, 20);
        x.write(0, 1, 0, 3, true);
        x.pump(0, 1);
        x.header(0, 2, 20, false);
        x.header(0, 2, 40, false);
        x.request(false);
        x.reset(0, 1, 9);
        due.frame("SETTINGS", x, 1, 0, 4, 0, 20, 0, 4);
        due.frame("DATA with END", x, 1, 1, 0, 1, 3, 1, 0);
        due.frame("HEADERS", x, 1, 2, 1, 3, 2, 0, 9);
        due.frame("RESET", x, 1, 3, 3, 1, 9, 0, 0);
        due.is("no such frame", x.frame(1, 4, 0), -1);
        due.is("k -1", x.frame(1, -1, 0), -1);
        due.is("k far", x.frame(1, Integer.MAX_VALUE, 0), -1);
        due.is("what -1", x.frame(1, 0, -1), -1);
        due.is("what 5", x.frame(1, 0, 5), -1);
        due.is("end -1", x.frame(-1, 0, 0), -1);
        due.is("end 2", x.frame(2, 0, 0), -1);
        due.is("an empty pipe", x.frame(0, 0, 0), -1);
        x.deliver(1);
        due.frame("the oldest is 0", x, 1, 0, 0, 1, 3, 1, 0);
        due.frame("ACK", x, 0, 0, 4, 0, 0, 1, 0);
        x.inject(1, 4, 0, 0, true);
        Scenes.drain(x, 1);
        due.is("frames of a down end", x.frame(0, Scenes.count(x, 0) - 1, 0), 7);
        manyTimesRound(due);
        due.finish();
    }

    /** More frames than a pipe ever holds go through it. */
    private static void manyTimesRound(Due due) {
        InterleavedLink x = Scenes.requested(1);
        x.reset(1, 1, 0);
        int sent = 0;
        for (int got = 1; got <= 70; got++) {
            while (sent < got + 28) {
                sent++;
                x.inject(1, 3, 1, sent, false);
            }
            due.is("the oldest", x.frame(1, 0, 2), got);
            due.is("the newest", x.frame(1, 28, 2), sent);
            due.is("none behind", x.frame(1, 29, 2), -1);
            due.is("deliver", x.deliver(1), 0);
        }
    }
}
