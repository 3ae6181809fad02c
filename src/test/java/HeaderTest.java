/** Promise 2. */
public final class HeaderTest {
    public static void main(String[] args) {
        Due due = new Due();
        InterleavedLink x = new InterleavedLink();
        due.is("end -1", x.header(-1, 1, 1, false), -1);
        due.is("end 2", x.header(2, 1, 1, false), -1);
        due.is("name -1", x.header(0, -1, 1, false), -1);
        due.is("name 16", x.header(0, 16, 1, false), -1);
        due.is("name 0", x.header(0, 0, Integer.MIN_VALUE, false), 1);
        due.is("name 15", x.header(0, 15, Integer.MAX_VALUE, true), 2);
        for (int k = 3; k <= 6; k++) {
            due.is("field " + k, x.header(0, k, -k, k % 2 == 0), k);
        }
        due.is("a seventh", x.header(0, 1, 1, false), -1);
        due.is("the other end has its own", x.header(1, 1, 1, false), 1);
        due.is("request", x.request(false), 1);
        due.is("an empty list again", x.header(0, 1, 1, false), 1);
        due.is("deliver", x.deliver(1), 0);
        due.is("the first name", x.field(1, 1, 0, false), 0);
        due.is("the first value", x.field(1, 1, 0, true), Integer.MIN_VALUE);
        due.is("a secret name", x.field(1, 1, 1, false), 15);
        due.is("a secret value", x.field(1, 1, 1, true), Integer.MAX_VALUE);
        due.is("the last value", x.field(1, 1, 5, true), -6);
        due.is("no more", x.field(1, 1, 6, true), -1);
        Scenes.fallen(x, 0);
        due.is("a down end", x.header(0, 1, 1, false), -1);
        due.is("an end that is up", x.header(1, 1, 1, false), 2);
        due.finish();
    }
}
