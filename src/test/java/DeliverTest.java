/** Promise 10, but for what each frame does. */
public final class DeliverTest {
    public static void main(String[] args) {
        Due due = new Due();
        InterleavedLink x = new InterleavedLink();
        due.is("end -1", x.deliver(-1), -1);
        due.is("end 2", x.deliver(2), -1);
        due.is("an empty pipe", x.deliver(0), -1);
        x.inject(0, 8, 0, 1, false);
        x.inject(0, 8, 0, 2, false);
        due.is("the oldest", x.deliver(0), 0);
        due.is("it was the oldest", x.window(0, 0, false), 41);
        due.is("one is left", x.frame(0, 0, 2), 2);
        due.is("the next", x.deliver(0), 0);
        due.is("taken out", x.deliver(0), -1);
        full(due);
        most(due);
        due.finish();
    }

    private static void full(Due due) {
        InterleavedLink x = new InterleavedLink();
        Scenes.overfill(x, 1, 39);
        x.inject(0, 4, 9, 0, false);
        due.is("39 frames", x.deliver(0), 0);
        due.is("an empty pipe before FULL", x.deliver(0), -1);
        x.inject(0, 8, 0, 1, false);
        due.is("40 frames", x.deliver(0), -2);
        due.is("still there", x.frame(0, 0, 0), 8);
        due.is("not got", x.window(0, 0, false), 40);
        x.deliver(1);
        due.is("39 again", x.deliver(0), 0);
        InterleavedLink y = new InterleavedLink();
        Scenes.overfill(y, 1, 39);
        y.inject(0, 3, 0, 0, false);
        y.inject(0, 8, 0, 1, false);
        due.is("a link error", y.deliver(0), 101);
        due.is("a down end is never FULL", y.deliver(0), 0);
        due.is("it drops", y.window(0, 0, false), 40);
        due.is("an empty pipe", y.deliver(0), -1);
    }

    private static void most(Due due) {
        InterleavedLink x = Scenes.responded(1);
        x.write(0, 1, 0x77, 3, false);
        x.pump(0, 1);
        x.deliver(1);
        Scenes.overfill(x, 0, 39);
        x.inject(1, 1, 1, 1, false);
        due.is("a stream error at 39 frames", x.deliver(1), 1);
        due.is("41 frames", Scenes.count(x, 0), 41);
        due.frame("the last but one", x, 0, 39, 3, 1, 1, 0, 0);
        due.frame("the last", x, 0, 40, 8, 0, 3, 0, 0);
    }
}
