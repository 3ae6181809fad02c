/** Promise 17. */
public final class TableTest {
    public static void main(String[] args) {
        Due due = new Due();
        InterleavedLink x = new InterleavedLink();
        x.header(0, 7, 300, false);
        x.header(0, 7, 5, false);
        x.request(true);
        due.is("the newest", x.table(0, false, 0), 5);
        due.is("the next", x.table(0, false, 1), 300);
        due.is("none", x.table(0, false, 2), 0);
        due.is("none far away", x.table(0, false, Integer.MAX_VALUE), 0);
        due.is("the sum", x.table(0, false, -1), 69);
        due.is("the maximum", x.table(0, false, -2), 100);
        due.is("k -3", x.table(0, false, -3), -1);
        due.is("k far below", x.table(0, false, Integer.MIN_VALUE), -1);
        due.is("end -1", x.table(-1, false, 0), -1);
        due.is("end 2", x.table(2, true, 0), -1);
        due.is("not yet got", x.table(1, true, -1), 0);
        due.is("the other table", x.table(0, true, -1), 0);
        x.deliver(1);
        due.is("got", x.table(1, true, -1), 69);
        due.is("got, the newest", x.table(1, true, 0), 5);
        due.is("the other table of end 1", x.table(1, false, -1), 0);
        x.header(1, 6, 70000, false);
        x.respond(1, true);
        due.is("sent by end 1", x.table(1, false, -1), 36);
        x.deliver(0);
        due.is("got by end 0", x.table(0, true, 0), 70000);
        due.is("the sent one stays", x.table(0, false, 0), 5);
        Scenes.fallen(x, 0);
        due.is("down", x.table(0, true, 0), 70000);
        due.finish();
    }
}
