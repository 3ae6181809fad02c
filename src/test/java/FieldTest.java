/** Promise 16. */
public final class FieldTest {
    public static void main(String[] args) {
        Due due = new Due();
        InterleavedLink x = new InterleavedLink();
        x.header(0, 12, -8, false);
        x.header(0, 3, 0, true);
        x.request(false);
        due.is("not yet come", x.field(1, 1, 0, false), -1);
        x.deliver(1);
        due.is("name 0", x.field(1, 1, 0, false), 12);
        due.is("value 0", x.field(1, 1, 0, true), -8);
        due.is("name 1", x.field(1, 1, 1, false), 3);
        due.is("value 1", x.field(1, 1, 1, true), 0);
        due.is("field 2", x.field(1, 1, 2, false), -1);
        due.is("field -1", x.field(1, 1, -1, false), -1);
        due.is("field far", x.field(1, 1, Integer.MAX_VALUE, true), -1);
        due.is("stream 0", x.field(1, 0, 0, false), -1);
        due.is("stream 2", x.field(1, 2, 0, false), -1);
        due.is("stream 3", x.field(1, 3, 0, false), -1);
        due.is("end 2", x.field(2, 1, 0, false), -1);
        due.is("end -1", x.field(-1, 1, 0, false), -1);
        due.is("none came to end 0", x.field(0, 1, 0, false), -1);
        x.header(1, 4, 44, false);
        x.respond(1, true);
        x.deliver(0);
        due.is("the response", x.field(0, 1, 0, true), 44);
        due.is("the request stays", x.field(1, 1, 0, true), -8);
        x.reset(0, 1, 0);
        Scenes.settle(x);
        due.is("CLOSED, at end 0", x.field(0, 1, 0, true), 44);
        due.is("CLOSED, at end 1", x.field(1, 1, 1, false), 3);
        Scenes.fallen(x, 1);
        due.is("down", x.field(1, 1, 1, false), 3);
        due.finish();
    }
}
