/** Promise 4. */
public final class RespondTest {
    public static void main(String[] args) {
        Due due = new Due();
        InterleavedLink x = Scenes.requested(3);
        due.is("an empty list", x.respond(1, false), -1);
        x.header(1, 2, 21, false);
        x.header(1, 2, 20, false);
        due.is("no stream", x.respond(2, false), -1);
        due.is("stream 0", x.respond(0, false), -1);
        due.is("stream 25", x.respond(25, false), -1);
        due.is("an IDLE stream", x.respond(7, false), -1);
        due.is("respond", x.respond(1, false), 2);
        due.is("still OPEN", x.state(1, 1), 1);
        due.frame("the frame", x, 0, 0, 1, 1, 2, 0, 4 + 4);
        due.is("the list is empty", x.header(1, 1, 0, false), 1);
        due.is("twice", x.respond(1, true), -1);
        due.is("with last", x.respond(3, true), 1);
        due.frame("the frame with END", x, 0, 1, 1, 3, 1, 1, 3);
        due.is("HALF LOCAL", x.state(1, 3), 2);
        due.is("deliver", x.deliver(0), 0);
        due.is("deliver", x.deliver(0), 0);
        due.is("the value", x.field(0, 1, 0, true), 21);
        due.is("HALF REMOTE at end 0", x.state(0, 3), 3);
        x.write(0, 5, 0, 0, true);
        x.pump(0, 1);
        x.deliver(1);
        due.is("HALF REMOTE", x.state(1, 5), 3);
        due.is("on HALF REMOTE", Scenes.respond(x, 5, true), 1);
        due.is("CLOSED", x.state(1, 5), 4);
        due.is("on CLOSED", Scenes.respond(x, 5, true), -1);
        due.is("on HALF LOCAL", Scenes.respond(x, 3, true), -1);
        full(due);
        due.finish();
    }

    private static void full(Due due) {
        InterleavedLink x = Scenes.requested(1);
        Scenes.fill(x, 0, 30);
        due.is("NONE before FULL", x.respond(1, false), -1);
        due.is("FULL", Scenes.respond(x, 1, false), -2);
        x.deliver(0);
        due.is("29 frames", x.respond(1, false), 1);
        InterleavedLink y = Scenes.requested(1);
        y.header(1, 1, 1, false);
        Scenes.fallen(y, 1);
        due.is("down", y.respond(1, false), -1);
    }
}
