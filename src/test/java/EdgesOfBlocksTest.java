/** The edges of header lists, tables and blocks, as 'Terms' has them. */
public final class EdgesOfBlocksTest {
    private static final int BYTE = 255;
    private static final int TWO_BYTES = 65535;
    private static final int THREE_BYTES = 16777215;

    public static void main(String[] args) {
        Sentences s = new Sentences();
        s.holds("HEADER LISTS are rows of up to 6 FIELDS", EdgesOfBlocksTest::sixFields);
        s.holds("each a name 0 .. 15 and a value (any int)", EdgesOfBlocksTest::namesAndValues);
        s.holds("The SIZE of a field is 33 and 1, 2, 3 or 4 more", EdgesOfBlocksTest::sizes);
        s.holds("Each end has two TABLES", EdgesOfBlocksTest::twoTables);
        s.holds("A table has a MAXIMUM, 100 at first", EdgesOfBlocksTest::hundredAtFirst);
        s.holds("fields, newest first", EdgesOfBlocksTest::newestFirst);
        s.holds("their sizes together are at most the maximum", EdgesOfBlocksTest::atMostTheMaximum);
        s.holds("INDEXES 1 .. 6 mean the fields 0:0, 0:1, 1:0, 2:20, 2:40, 3:0", EdgesOfBlocksTest::fixedIndexes);
        s.holds("7 the newest of the table, 8 the next one, and so on", EdgesOfBlocksTest::tableIndexes);
        s.holds("the oldest fields are dropped until it fits", EdgesOfBlocksTest::droppedUntilItFits);
        s.holds("or none is left; if it fits, it is the newest", EdgesOfBlocksTest::noneIsLeft);
        s.holds("A new maximum drops the oldest fields until the others fit.", EdgesOfBlocksTest::newMaximum);
        s.holds("NEW i: its name is that of the field with index i", EdgesOfBlocksTest::nameByIndex);
        s.holds("SENDING: when a table limit was told since the last block was sent", EdgesOfBlocksTest::toldSince);
        s.holds("MAXIMUM m, if m < t; then MAXIMUM t", EdgesOfBlocksTest::leastAndLast);
        s.holds("a secret one: SECRET with the least index of a field with its name, 0 if there is none",
                EdgesOfBlocksTest::secrets);
        s.holds("another one: INDEXED with the least index of an equal field", EdgesOfBlocksTest::equalFields);
        s.holds("NEW with the least index of a field with its name, 0 if there is none", EdgesOfBlocksTest::newFields);
        s.holds("The sender's table does the steps as they are made.", EdgesOfBlocksTest::stepByStep);
        s.holds("WRONG: an index that means no field", EdgesOfBlocksTest::wrongIndex);
        s.holds("its steps are done in order, up to the first that is WRONG", EdgesOfBlocksTest::doneUpToTheWrong);
        s.holds("WRONG: a MAXIMUM above the table limit in force here", EdgesOfBlocksTest::aboveTheLimit);
        s.holds("WRONG: a first step that is no MAXIMUM, though a table limit below the maximum has come in force",
                EdgesOfBlocksTest::maximumIsDue);
        s.holds("since the last block, or since the beginning", EdgesOfBlocksTest::dueOnce);
        s.holds("below the maximum that the table had when it came", EdgesOfBlocksTest::belowTheMaximum);
        s.finish();
    }

    /** A link on which the end told the table limit, which is in force. */
    private static InterleavedLink limited(int end, int limit) {
        InterleavedLink x = new InterleavedLink();
        Scenes.set(x, end, 1, limit);
        return x;
    }

    /** End 0 sends a request with these values as fields of the name 9, which no fixed field has. */
    private static void send(InterleavedLink x, int... values) {
        for (int value : values) {
            x.header(0, 9, value, false);
        }
        x.request(true);
    }

    private static void table(Due due, String what, InterleavedLink x, int... values) {
        for (int k = 0; k < values.length; k++) {
            due.is(what + ": field " + k + " sent", x.table(0, false, k), values[k]);
            due.is(what + ": field " + k + " got", x.table(1, true, k), values[k]);
        }
        due.is(what + ": no more sent", x.table(0, false, values.length), 0);
        due.is(what + ": no more got", x.table(1, true, values.length), 0);
    }

    private static void sum(Due due, String what, InterleavedLink x, int sum) {
        due.is(what + ": sent", x.table(0, false, -1), sum);
        due.is(what + ": got", x.table(1, true, -1), sum);
    }

    private static void sixFields(Due due) {
        InterleavedLink x = new InterleavedLink();
        for (int k = 1; k <= 6; k++) {
            due.is("field " + k, x.header(0, k, 100 + k, k == 3), k);
        }
        due.is("a seventh", x.header(0, 7, 107, false), -1);
        x.request(false);
        due.is("six steps", x.frame(1, 0, 2), 6);
        x.deliver(1);
        for (int k = 0; k < 6; k++) {
            due.is("name " + k, x.field(1, 1, k, false), k + 1);
            due.is("value " + k, x.field(1, 1, k, true), 101 + k);
        }
        due.is("no seventh", x.field(1, 1, 6, false), -1);
        due.is("one field", x.header(1, 4, 4, false), 1);
        due.is("a list of one", x.respond(1, false), 1);
        x.deliver(0);
        due.is("it came", x.field(0, 1, 0, true), 4);
        due.is("alone", x.field(0, 1, 1, true), -1);
    }

    private static void namesAndValues(Due due) {
        int[] values = {Integer.MIN_VALUE, -1, 0, Integer.MAX_VALUE};
        for (int value : values) {
            for (int name : new int[] {0, 15}) {
                InterleavedLink x = new InterleavedLink();
                due.is("secret", x.header(0, name, value, true), 1);
                due.is("not secret", x.header(0, name, value, false), 2);
                x.request(false);
                x.deliver(1);
                for (int k = 0; k < 2; k++) {
                    due.is("name", x.field(1, 1, k, false), name);
                    due.is("value", x.field(1, 1, k, true), value);
                }
            }
        }
        InterleavedLink x = new InterleavedLink();
        for (int name : new int[] {-1, 16, Integer.MIN_VALUE, Integer.MAX_VALUE}) {
            due.is("name " + name, x.header(0, name, 0, false), -1);
        }
    }

    private static void sizes(Due due) {
        int[][] rows = {{0, 34}, {1, 34}, {BYTE, 34}, {BYTE + 1, 35}, {TWO_BYTES, 35}, {TWO_BYTES + 1, 36},
            {THREE_BYTES, 36}, {THREE_BYTES + 1, 37}, {Integer.MAX_VALUE, 37}, {-1, 37}, {Integer.MIN_VALUE, 37}};
        for (int[] row : rows) {
            InterleavedLink x = new InterleavedLink();
            send(x, row[0]);
            x.deliver(1);
            sum(due, "size of " + row[0], x, row[1]);
            table(due, "value", x, row[0]);
        }
    }

    private static void twoTables(Due due) {
        InterleavedLink x = new InterleavedLink();
        send(x, 70);
        x.deliver(1);
        x.header(1, 9, 71, false);
        x.respond(1, true);
        x.deliver(0);
        due.is("sent by end 0", x.table(0, false, 0), 70);
        due.is("got by end 0", x.table(0, true, 0), 71);
        due.is("sent by end 1", x.table(1, false, 0), 71);
        due.is("got by end 1", x.table(1, true, 0), 70);
        Scenes.set(x, 1, 1, 50);
        send(x, 72);
        x.deliver(1);
        due.is("maximum, sent by end 0", x.table(0, false, -2), 50);
        due.is("maximum, got by end 0", x.table(0, true, -2), 100);
        due.is("maximum, sent by end 1", x.table(1, false, -2), 100);
        due.is("maximum, got by end 1", x.table(1, true, -2), 50);
    }

    private static void hundredAtFirst(Due due) {
        InterleavedLink x = new InterleavedLink();
        send(x, 1, 2);
        x.deliver(1);
        due.is("the maximum sent", x.table(0, false, -2), 100);
        due.is("the maximum got", x.table(1, true, -2), 100);
        table(due, "68 are at most 100", x, 2, 1);
        send(x, 3);
        x.deliver(1);
        table(due, "102 are not", x, 3, 2);
    }

    private static void newestFirst(Due due) {
        InterleavedLink x = limited(1, 200);
        send(x, 1, 2, 3);
        send(x, 4, 5);
        Scenes.settle(x);
        table(due, "newest first", x, 5, 4, 3, 2, 1);
    }

    private static void atMostTheMaximum(Due due) {
        int[][] rows = {{33, 0}, {34, 34}, {67, 34}, {68, 68}, {101, 68}, {102, 102}, {135, 102}, {136, 136},
            {169, 136}, {170, 170}, {200, 170}};
        for (int[] row : rows) {
            InterleavedLink x = limited(1, row[0]);
            send(x, 1, 2, 3, 4, 5, 6);
            x.deliver(1);
            sum(due, "within " + row[0], x, row[1]);
            due.is("the newest", x.table(1, true, 0), row[1] == 0 ? 0 : 6);
        }
    }

    private static void fixedIndexes(Due due) {
        int[][] fixed = {{0, 0}, {0, 1}, {1, 0}, {2, 20}, {2, 40}, {3, 0}};
        for (int k = 0; k < 6; k++) {
            InterleavedLink x = new InterleavedLink();
            x.header(0, fixed[k][0], fixed[k][1], false);
            x.request(false);
            due.frame("INDEXED " + (k + 1), x, 1, 0, 1, 1, 1, 0, k + 1);
            due.is("not added", x.table(0, false, -1), 0);
            InterleavedLink y = new InterleavedLink();
            due.is("deliver", Scenes.got(y, 1, 1, 1, k + 1), 0);
            due.is("name", y.field(1, 1, 0, false), fixed[k][0]);
            due.is("value", y.field(1, 1, 0, true), fixed[k][1]);
            due.is("not in the table", y.table(1, true, -1), 0);
        }
        int[][] beside = {{0, 2}, {1, 1}, {2, 0}, {2, 21}, {3, 1}, {4, 0}};
        for (int[] field : beside) {
            InterleavedLink x = new InterleavedLink();
            x.header(0, field[0], field[1], false);
            x.request(false);
            due.is(field[0] + ":" + field[1] + " is none of them", x.table(0, false, -1), 34);
        }
    }

    private static void tableIndexes(Due due) {
        InterleavedLink x = limited(1, 200);
        send(x, 1, 2, 3, 4, 5);
        Scenes.settle(x);
        for (int k = 0; k < 5; k++) {
            int stream = 3 + 2 * k;
            due.is("INDEXED " + (7 + k), Scenes.got(x, 1, 1, stream, 7 + k), 0);
            due.is("name", x.field(1, stream, 0, false), 9);
            due.is("value", x.field(1, stream, 0, true), 5 - k);
        }
        due.is("INDEXED 12", Scenes.got(x, 1, 1, 13, 12), 109);
        InterleavedLink y = limited(1, 200);
        send(y, 1, 2, 3, 4, 5);
        for (int k = 0; k < 5; k++) {
            send(y, 5 - k);
            due.is("sent as " + (7 + k), y.frame(1, 1 + k, 4), 7 + k);
        }
    }

    /** In a table of 105 with 34, 35 and 36, which are 105. */
    private static void droppedUntilItFits(Due due) {
        int[][] rows = {{1, 34 + 36 + 35}, {TWO_BYTES, 35 + 36}, {-1, 37 + 36}};
        for (int[] row : rows) {
            InterleavedLink x = limited(1, 105);
            send(x, 7, BYTE + 1, TWO_BYTES + 1);
            x.deliver(1);
            sum(due, "105 fit into 105", x, 105);
            send(x, row[0]);
            x.deliver(1);
            sum(due, "with " + row[0], x, row[1]);
            due.is("the newest", x.table(1, true, 0), row[0]);
            due.is("the next", x.table(1, true, 1), TWO_BYTES + 1);
        }
    }

    private static void noneIsLeft(Due due) {
        for (int limit = 34; limit <= 37; limit++) {
            InterleavedLink x = limited(1, limit);
            send(x, 5, THREE_BYTES + 1);
            x.deliver(1);
            sum(due, "37 into " + limit, x, limit == 37 ? 37 : 0);
            due.is("the newest", x.table(1, true, 0), limit == 37 ? THREE_BYTES + 1 : 0);
            due.is("no other", x.table(1, true, 1), 0);
            due.is("the list has both", x.field(1, 1, 0, true), 5);
            due.is("the list has both", x.field(1, 1, 1, true), THREE_BYTES + 1);
        }
        InterleavedLink none = limited(1, 0);
        send(none, 5);
        due.is("deliver", none.deliver(1), 0);
        sum(due, "nothing fits into 0", none, 0);
        due.is("the list has it", none.field(1, 1, 0, true), 5);
    }

    private static void newMaximum(Due due) {
        int[][] rows = {{200, 105}, {105, 105}, {104, 71}, {71, 71}, {70, 36}, {36, 36}, {35, 0}, {0, 0}};
        for (int[] row : rows) {
            InterleavedLink x = limited(1, 200);
            send(x, 1, BYTE + 1, TWO_BYTES + 1);
            Scenes.settle(x);
            sum(due, "at first", x, 105);
            Scenes.set(x, 1, 1, row[0]);
            sum(due, "not before the block", x, 105);
            due.is("nor the maximum", x.table(0, false, -2), 200);
            Scenes.request(x, false);
            x.deliver(1);
            sum(due, "with " + row[0], x, row[1]);
            due.is("the maximum sent", x.table(0, false, -2), row[0]);
            due.is("the maximum got", x.table(1, true, -2), row[0]);
            due.is("the newest stays longest", x.table(1, true, 0), row[1] == 0 ? 0 : TWO_BYTES + 1);
        }
    }

    /** The field that gives the name is dropped by the step that it names. */
    private static void nameByIndex(Due due) {
        InterleavedLink x = limited(1, 40);
        send(x, 1, 2);
        due.is("40, 0 and 7", x.frame(1, 0, 4), 47);
        due.is("deliver", x.deliver(1), 0);
        due.is("the name", x.field(1, 1, 1, false), 9);
        table(due, "the table", x, 2);
    }

    private static void toldSince(Due due) {
        InterleavedLink x = new InterleavedLink();
        Scenes.request(x, true);
        due.frame("none told", x, 1, 0, 1, 1, 1, 1, 3);
        x.deliver(1);
        Scenes.set(x, 1, 1, 100);
        Scenes.request(x, true);
        due.frame("told, the same as before", x, 1, 0, 1, 3, 2, 1, 103);
        Scenes.request(x, true);
        due.frame("not since", x, 1, 1, 1, 5, 1, 1, 3);
        Scenes.settle(x);
        Scenes.set(x, 1, 1, 20);
        Scenes.request(x, true);
        Scenes.settle(x);
        Scenes.set(x, 1, 1, 60);
        Scenes.request(x, true);
        due.frame("20 was told before the last block", x, 1, 0, 1, 9, 2, 1, 63);
        InterleavedLink y = new InterleavedLink();
        y.setting(1, 1, 60);
        Scenes.request(y, true);
        due.frame("sent, not told", y, 1, 0, 1, 1, 1, 1, 3);
        InterleavedLink z = new InterleavedLink();
        Scenes.set(z, 1, 3, 9);
        Scenes.set(z, 1, 4, 9);
        Scenes.set(z, 0, 1, 9);
        Scenes.request(z, true);
        due.frame("other settings, and its own, are none", z, 1, 0, 1, 1, 1, 1, 3);
    }

    private static void leastAndLast(Due due) {
        int[][] told = {{30, 31}, {31, 30}, {30, 30}, {30, 60, 45}, {60, 30, 45}, {45, 60, 30}, {0, 200}, {200, 0},
            {150, 150, 199, 150}};
        int[][] steps = {{30, 31}, {30}, {30}, {30, 45}, {30, 45}, {30}, {0, 200}, {0}, {150}};
        for (int k = 0; k < told.length; k++) {
            InterleavedLink x = new InterleavedLink();
            for (int limit : told[k]) {
                Scenes.set(x, 1, 1, limit);
            }
            x.header(0, 0, 0, false);
            x.request(true);
            int sum = 1;
            for (int step : steps[k]) {
                sum += step;
            }
            due.frame("row " + k, x, 1, 0, 1, 1, steps[k].length + 1, 1, sum);
            due.is("deliver", x.deliver(1), 0);
            due.is("the maximum", x.table(1, true, -2), steps[k][steps[k].length - 1]);
        }
        InterleavedLink x = new InterleavedLink();
        send(x, 1, 2);
        Scenes.settle(x);
        Scenes.set(x, 1, 1, 34);
        Scenes.set(x, 1, 1, 100);
        send(x, 3);
        x.deliver(1);
        table(due, "MAXIMUM 34 drops one", x, 3, 2);
    }

    private static void secrets(Due due) {
        int[][] rows = {{0, 1}, {1, 3}, {2, 4}, {3, 6}, {4, 0}, {9, 7}, {10, 8}};
        for (int[] row : rows) {
            InterleavedLink x = new InterleavedLink();
            x.header(0, 10, 3, false);
            x.header(0, 9, 4, false);
            x.request(true);
            x.header(0, row[0], 5, true);
            x.request(true);
            due.frame("SECRET of the name " + row[0], x, 1, 1, 1, 3, 1, 1, row[1]);
            due.is("not added", x.table(0, false, -1), 68);
            due.is("the newest stays", x.table(0, false, 0), 4);
            Scenes.settle(x);
            due.is("not added by the getter", x.table(1, true, -1), 68);
            due.is("the newest stays", x.table(1, true, 0), 4);
            due.is("name", x.field(1, 3, 0, false), row[0]);
            due.is("value", x.field(1, 3, 0, true), 5);
        }
        InterleavedLink x = new InterleavedLink();
        x.header(0, 0, 1, true);
        x.request(true);
        due.is("an equal field has the index 2, the name 1", x.frame(1, 0, 4), 1);
        InterleavedLink y = new InterleavedLink();
        y.header(0, 9, 1, false);
        y.header(0, 9, 2, false);
        y.header(0, 9, 1, true);
        y.request(true);
        due.is("0, 7 and 7, not 8", y.frame(1, 0, 4), 14);
    }

    private static void equalFields(Due due) {
        InterleavedLink x = new InterleavedLink();
        send(x, 1, 2);
        send(x, 1);
        due.frame("INDEXED 8", x, 1, 1, 1, 3, 1, 1, 8);
        send(x, 2);
        due.frame("INDEXED 7", x, 1, 2, 1, 5, 1, 1, 7);
        due.is("nothing added", x.table(0, false, -1), 68);
        x.header(0, 10, 1, false);
        x.request(true);
        due.frame("an equal value alone is not equal", x, 1, 3, 1, 7, 1, 1, 0);
        due.is("added", x.table(0, false, 0), 1);
        send(x, 1);
        due.is("it was dropped: NEW 8", x.frame(1, 4, 4), 8);
    }

    private static void newFields(Due due) {
        int[][] rows = {{0, 1}, {1, 3}, {2, 4}, {3, 6}, {4, 0}, {15, 0}};
        for (int[] row : rows) {
            InterleavedLink x = new InterleavedLink();
            x.header(0, row[0], 99, false);
            x.request(true);
            due.frame("NEW of the name " + row[0], x, 1, 0, 1, 1, 1, 1, row[1]);
            due.is("added", x.table(0, false, 0), 99);
            due.is("deliver", x.deliver(1), 0);
            due.is("name", x.field(1, 1, 0, false), row[0]);
            due.is("added by the getter", x.table(1, true, 0), 99);
        }
        InterleavedLink x = new InterleavedLink();
        send(x, 1);
        x.header(0, 10, 2, false);
        x.request(true);
        send(x, 3);
        due.is("NEW 8", x.frame(1, 2, 4), 8);
        send(x, 4);
        due.is("NEW 7, the newest", x.frame(1, 3, 4), 7);
    }

    private static void stepByStep(Due due) {
        InterleavedLink x = new InterleavedLink();
        send(x, 1, 1, 2, 1);
        due.frame("NEW 0, INDEXED 7, NEW 7, INDEXED 8", x, 1, 0, 1, 1, 4, 1, 22);
        x.deliver(1);
        int[] values = {1, 1, 2, 1};
        for (int k = 0; k < 4; k++) {
            due.is("value " + k, x.field(1, 1, k, true), values[k]);
        }
        InterleavedLink y = new InterleavedLink();
        send(y, 1);
        Scenes.settle(y);
        Scenes.set(y, 1, 1, 33);
        send(y, 1);
        due.frame("MAXIMUM 33 first, then NEW 0", y, 1, 0, 1, 3, 2, 1, 33);
        InterleavedLink z = new InterleavedLink();
        send(z, 1, 2, 3, 1);
        due.frame("1 was dropped: 0, 7, 7, 7", z, 1, 0, 1, 1, 4, 1, 21);
    }

    private static void wrongIndex(Due due) {
        for (int fields = 0; fields <= 2; fields++) {
            for (int index : new int[] {6 + fields, 7 + fields, 0, -1, Integer.MIN_VALUE, Integer.MAX_VALUE}) {
                InterleavedLink x = new InterleavedLink();
                if (fields > 0) {
                    send(x, fields == 1 ? new int[] {1} : new int[] {1, 2});
                    x.deliver(1);
                }
                boolean means = index == 6 + fields;
                due.is("index " + index + " beside " + fields, Scenes.got(x, 1, 1, 3, index), means ? 0 : 109);
                due.is("down", x.down(1), means ? 0 : 109);
                due.is("the stream", x.state(1, 3), means ? 1 : 0);
            }
        }
        InterleavedLink x = Scenes.requested(1);
        due.is("at end 0", Scenes.got(x, 0, 1, 1, 7), 109);
        due.frame("FAREWELL 9", x, 1, 0, 7, 0, 9, 0, 0);
    }

    private static void doneUpToTheWrong(Due due) {
        InterleavedLink x = new InterleavedLink();
        Scenes.got(x, 0, 4, 1, 90);
        Scenes.got(x, 0, 4, 1, 101);
        x.setting(1, 1, 100);
        x.setting(1, 1, 100);
        send(x, 5);
        x.deliver(1);
        x.deliver(1);
        due.frame("90, 101, NEW 0", x, 1, 0, 1, 1, 3, 1, 191);
        due.is("101 is wrong", x.deliver(1), 109);
        due.is("90 was done", x.table(1, true, -2), 90);
        due.is("NEW was not", x.table(1, true, -1), 0);
        due.is("no list", x.field(1, 1, 0, true), -1);
        due.is("no stream", x.state(1, 1), 0);
    }

    /** The ACK for the SETTINGS that nobody sent comes for the first window, which stays 16. */
    private static void aboveTheLimit(Due due) {
        int[][] rows = {{100, 100, 0}, {100, 101, 109}, {50, 50, 0}, {50, 51, 109}, {0, 0, 0}, {0, 1, 109},
            {199, 199, 0}, {199, 200, 109}, {200, 200, 0}, {150, 0, 0}};
        for (int[] row : rows) {
            InterleavedLink x = limited(1, row[0]);
            x.inject(0, 4, 1, row[1], false);
            x.setting(1, 4, 16);
            x.deliver(0);
            Scenes.request(x, true);
            due.is("the ACK", x.deliver(1), 0);
            due.is("steps", x.frame(1, 0, 2), row[0] < row[1] ? 3 : 2);
            due.is("MAXIMUM " + row[1] + " within " + row[0], x.deliver(1), row[2]);
            due.is("the maximum", x.table(1, true, -2), row[2] == 0 ? row[1] : row[0]);
        }
    }

    private static void maximumIsDue(Due due) {
        for (int limit : new int[] {0, 99, 100, 101, 200}) {
            boolean below = limit < 100;
            due.is("limit " + limit, Scenes.got(limited(1, limit), 1, 1, 1, 1), below ? 109 : 0);
            InterleavedLink x = new InterleavedLink();
            Scenes.request(x, true);
            Scenes.settle(x);
            Scenes.set(x, 0, 1, limit);
            due.is("limit " + limit + " at end 0", Scenes.got(x, 0, 1, 1, 1), below ? 109 : 0);
        }
        InterleavedLink x = limited(1, 99);
        Scenes.request(x, true);
        due.is("a first step that is a MAXIMUM", x.deliver(1), 0);
        InterleavedLink y = new InterleavedLink();
        y.setting(1, 1, 99);
        due.is("not in force", Scenes.got(y, 1, 1, 1, 1), 0);
        due.is("that of the other end", Scenes.got(limited(0, 50), 1, 1, 1, 1), 0);
    }

    private static void dueOnce(Due due) {
        InterleavedLink x = limited(1, 99);
        Scenes.set(x, 1, 1, 200);
        due.is("one below, one above", Scenes.got(x, 1, 1, 1, 1), 109);
        InterleavedLink y = limited(1, 99);
        Scenes.request(y, true);
        y.deliver(1);
        due.is("a block came since", Scenes.got(y, 1, 1, 3, 1), 0);
        InterleavedLink z = new InterleavedLink();
        Scenes.got(z, 1, 1, 1, 1);
        Scenes.set(z, 1, 1, 99);
        due.is("since the last block", Scenes.got(z, 1, 1, 3, 1), 109);
        InterleavedLink w = limited(1, 99);
        Scenes.request(w, true);
        Scenes.settle(w);
        Scenes.set(w, 1, 1, 98);
        due.is("due again", Scenes.got(w, 1, 1, 3, 1), 109);
    }

    private static void belowTheMaximum(Due due) {
        int[][] rows = {{50, 60, 0}, {50, 50, 0}, {50, 49, 109}, {200, 200, 0}, {200, 199, 109}, {200, 100, 109},
            {0, 0, 0}};
        for (int[] row : rows) {
            InterleavedLink x = limited(1, row[0]);
            Scenes.request(x, true);
            x.deliver(1);
            due.is("the maximum", x.table(1, true, -2), row[0]);
            Scenes.set(x, 1, 1, row[1]);
            due.is("limit " + row[1] + " by a maximum of " + row[0], Scenes.got(x, 1, 1, 3, 1), row[2]);
        }
        InterleavedLink x = limited(1, 50);
        Scenes.request(x, true);
        x.deliver(1);
        Scenes.set(x, 1, 1, 60);
        Scenes.set(x, 1, 1, 55);
        due.is("below the limit before it, not below the maximum", Scenes.got(x, 1, 1, 3, 1), 0);
    }
}
