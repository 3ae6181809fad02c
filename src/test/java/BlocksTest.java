/** How blocks are made and got, seen through promises 10, 12, 16 and 17. */
public final class BlocksTest {
    public static void main(String[] args) {
        Due due = new Due();
        indexes(due);
        secrets(due);
        sizes(due);
        tooLarge(due);
        maximums(due);
        nameOfADroppedField(due);
        wrongSteps(due);
        due.finish();
    }

    private static void indexes(Due due) {
        int[][] fixed = {{0, 0}, {0, 1}, {1, 0}, {2, 20}, {2, 40}, {3, 0}};
        for (int k = 0; k < 6; k++) {
            InterleavedLink x = new InterleavedLink();
            x.header(0, fixed[k][0], fixed[k][1], false);
            x.request(true);
            due.frame("a fixed field", x, 1, 0, 1, 1, 1, 1, k + 1);
            x.deliver(1);
            due.is("its name", x.field(1, 1, 0, false), fixed[k][0]);
            due.is("its value", x.field(1, 1, 0, true), fixed[k][1]);
            due.is("not added", x.table(0, false, -1), 0);
        }
        int[] leastNamed = {1, 3, 4, 6, 0};
        for (int name = 0; name < 5; name++) {
            InterleavedLink x = new InterleavedLink();
            x.header(0, name, 99, false);
            x.request(true);
            due.is("NEW " + name, x.frame(1, 0, 4), leastNamed[name]);
            x.deliver(1);
            due.is("its name", x.field(1, 1, 0, false), name);
            due.is("its value", x.field(1, 1, 0, true), 99);
            due.is("added", x.table(1, true, 0), 99);
        }
        InterleavedLink x = new InterleavedLink();
        x.header(0, 8, 1, false);
        x.header(0, 9, 2, false);
        x.header(0, 8, 1, false);
        x.header(0, 9, 2, false);
        x.header(0, 8, 3, true);
        x.request(true);
        due.frame("0, 0, 8, 7, 8", x, 1, 0, 1, 1, 5, 1, 23);
        x.deliver(1);
        int[] values = {1, 2, 1, 2, 3};
        for (int k = 0; k < 5; k++) {
            due.is("value " + k, x.field(1, 1, k, true), values[k]);
            due.is("name " + k, x.field(1, 1, k, false), values[k] == 2 ? 9 : 8);
        }
    }

    private static void secrets(Due due) {
        InterleavedLink x = new InterleavedLink();
        x.header(0, 0, 1, true);
        x.header(0, 5, 7, true);
        x.header(0, 5, 7, true);
        x.request(true);
        due.frame("1, 0, 0: never equal, never added", x, 1, 0, 1, 1, 3, 1, 1);
        x.deliver(1);
        due.is("nothing added by the sender", x.table(0, false, -1), 0);
        due.is("nothing added by the getter", x.table(1, true, -1), 0);
        due.is("the value", x.field(1, 1, 0, true), 1);
        due.is("the value", x.field(1, 1, 2, true), 7);
        due.is("the name", x.field(1, 1, 2, false), 5);
    }

    private static void sizes(Due due) {
        int[][] rows = {{0, 34}, {255, 34}, {256, 35}, {65535, 35}, {65536, 36}, {16777215, 36}, {16777216, 37},
            {Integer.MAX_VALUE, 37}, {-1, 37}, {Integer.MIN_VALUE, 37}};
        for (int[] row : rows) {
            InterleavedLink x = new InterleavedLink();
            x.header(0, 7, row[0], false);
            x.request(true);
            x.deliver(1);
            due.is("size of " + row[0], x.table(0, false, -1), row[1]);
            due.is("size of " + row[0] + " at the getter", x.table(1, true, -1), row[1]);
            due.is("the value", x.table(1, true, 0), row[0]);
        }
        InterleavedLink x = new InterleavedLink();
        x.header(0, 7, 11, false);
        x.header(0, 7, 12, false);
        x.request(true);
        x.header(0, 7, 13, false);
        x.request(true);
        due.is("the oldest was dropped", x.table(0, false, -1), 68);
        due.is("the newest", x.table(0, false, 0), 13);
        due.is("the next", x.table(0, false, 1), 12);
        due.is("no more", x.table(0, false, 2), 0);
    }

    private static void tooLarge(Due due) {
        InterleavedLink x = limited(68);
        x.header(0, 7, 11, false);
        x.header(0, 7, 12, false);
        x.request(true);
        due.is("68 fit into 68", x.table(0, false, -1), 68);
        InterleavedLink y = limited(36);
        y.header(0, 7, 11, false);
        y.header(0, 7, 1 << 24, false);
        y.request(true);
        due.is("37 do not fit into 36, and none is left", y.table(0, false, -1), 0);
        due.is("nothing there", y.table(0, false, 0), 0);
        y.deliver(1);
        due.is("nor at the getter", y.table(1, true, -1), 0);
        due.is("the list has it", y.field(1, 1, 1, true), 1 << 24);
        InterleavedLink z = limited(200);
        for (int k = 1; k <= 6; k++) {
            z.header(0, 7, k, false);
        }
        z.request(true);
        Scenes.settle(z);
        due.is("five fit into 200", z.table(1, true, -1), 170);
        due.is("the newest", z.table(1, true, 0), 6);
        due.is("the oldest", z.table(1, true, 4), 2);
        due.is("no sixth", z.table(1, true, 5), 0);
    }

    /** A link on which end 1 told the table limit; the next block of end 0 begins with it. */
    private static InterleavedLink limited(int limit) {
        InterleavedLink x = new InterleavedLink();
        x.setting(1, 1, limit);
        Scenes.settle(x);
        return x;
    }

    private static void maximums(Due due) {
        InterleavedLink x = limited(100);
        due.is("request", Scenes.request(x, true), 1);
        due.frame("told the same", x, 1, 0, 1, 1, 2, 1, 103);
        Scenes.request(x, true);
        due.frame("only once", x, 1, 1, 1, 3, 1, 1, 3);
        x.header(0, 8, 5, false);
        x.request(true);
        Scenes.settle(x);
        for (int limit : new int[] {120, 30, 50, 70}) {
            x.setting(1, 1, limit);
        }
        Scenes.settle(x);
        due.is("the table keeps its fields till then", x.table(0, false, -1), 34);
        due.is("and its maximum", x.table(1, true, -2), 100);
        x.header(0, 8, 5, false);
        x.request(true);
        due.frame("the least, the last, NEW 0", x, 1, 0, 1, 7, 3, 1, 30 + 70);
        Scenes.settle(x);
        due.is("the maximum", x.table(1, true, -2), 70);
        due.is("the field is back", x.table(1, true, 0), 5);
        x.setting(1, 1, 60);
        x.setting(1, 1, 40);
        Scenes.settle(x);
        x.header(0, 8, 5, false);
        x.request(true);
        due.frame("the least is the last, INDEXED 7", x, 1, 0, 1, 9, 2, 1, 40 + 7);
        x.setting(0, 1, 0);
        Scenes.settle(x);
        due.is("the other way", x.table(1, false, -2), 100);
        longest(due);
    }

    private static void longest(Due due) {
        InterleavedLink x = limited(50);
        x.setting(1, 1, 200);
        Scenes.settle(x);
        for (int k = 1; k <= 6; k++) {
            x.header(0, 10, k, true);
        }
        x.request(true);
        due.frame("two maximums and six fields", x, 1, 0, 1, 1, 8, 1, 250);
        due.is("deliver", x.deliver(1), 0);
        due.is("the last field", x.field(1, 1, 5, true), 6);
    }

    private static void nameOfADroppedField(Due due) {
        InterleavedLink x = limited(40);
        x.header(0, 8, 1, false);
        x.header(0, 8, 2, false);
        x.request(true);
        due.frame("MAXIMUM 40, NEW 0, NEW 7", x, 1, 0, 1, 1, 3, 1, 47);
        due.is("deliver", x.deliver(1), 0);
        due.is("the name of the one dropped", x.field(1, 1, 1, false), 8);
        due.is("the value", x.field(1, 1, 1, true), 2);
        due.is("the table", x.table(1, true, 0), 2);
    }

    private static void wrongSteps(Due due) {
        for (int index : new int[] {0, -1, 7, Integer.MAX_VALUE, Integer.MIN_VALUE}) {
            InterleavedLink x = new InterleavedLink();
            x.inject(1, 1, 1, index, false);
            due.is("INDEXED " + index, x.deliver(1), 109);
            due.frame("FAREWELL 9", x, 0, 0, 7, 0, 9, 0, 0);
            due.is("no stream", x.state(1, 1), 0);
        }
        InterleavedLink right = new InterleavedLink();
        right.header(0, 9, 9, false);
        right.request(true);
        right.inject(1, 1, 3, 7, false);
        Scenes.drain(right, 1);
        due.is("INDEXED 7 in a table of one", right.field(1, 3, 0, true), 9);

        InterleavedLink above = new InterleavedLink();
        above.inject(0, 4, 1, 90, false);
        above.inject(0, 4, 1, 101, false);
        Scenes.drain(above, 0);
        above.setting(1, 1, 100);
        above.setting(1, 1, 100);
        Scenes.request(above, false);
        above.deliver(1);
        above.deliver(1);
        due.is("MAXIMUM 101 above the limit 100", above.deliver(1), 109);
        due.is("the step before it was done", above.table(1, true, -2), 90);

        InterleavedLink missing = limited(99);
        missing.inject(1, 1, 1, 1, false);
        due.is("no MAXIMUM, though it is due", missing.deliver(1), 109);
        InterleavedLink equal = limited(100);
        equal.inject(1, 1, 1, 1, false);
        due.is("100 is not below 100", equal.deliver(1), 0);
        InterleavedLink back = limited(99);
        back.setting(1, 1, 150);
        Scenes.settle(back);
        back.inject(1, 1, 1, 1, false);
        due.is("one below is enough", back.deliver(1), 109);
        InterleavedLink done = limited(99);
        Scenes.request(done, false);
        done.inject(1, 1, 3, 1, false);
        done.deliver(1);
        due.is("due only once", done.deliver(1), 0);
        done.setting(1, 1, 99);
        Scenes.settle(done);
        done.inject(1, 1, 5, 1, false);
        due.is("99 is not below 99", done.deliver(1), 0);
        refusedStreamsToo(due);
    }

    private static void refusedStreamsToo(Due due) {
        InterleavedLink x = new InterleavedLink();
        x.setting(1, 3, 0);
        x.inject(1, 4, 0, 0, true);
        x.deliver(1);
        x.header(0, 9, 5, false);
        x.request(false);
        due.is("RESET 7", x.deliver(1), 7);
        due.is("its block was got", x.table(1, true, 0), 5);
    }
}
