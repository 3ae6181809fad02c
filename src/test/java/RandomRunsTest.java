import java.util.Random;

/** Promises 1 to 18: seeded runs of calls, each answer compared with that of the second reading. */
public final class RandomRunsTest {
    private static final int RUNS = 8000;
    private static final int CALLS = 512;
    private static final int[] ODD_NUMBERS = {-1, 0, 2, 24, 25, 99, 7, 8, Integer.MIN_VALUE, Integer.MAX_VALUE};
    private static final int[] VALUES = {0, 1, 20, 40, 255, 256, 65535, 65536, 16777215, 16777216, -1};
    private static final int[] KINDS = {0, 1, 3, 4, 7, 8};
    private static final int[] SETTINGS = {1, 3, 4};

    private final Due due;
    private final Random random;
    private final int run;
    /** Of a thousand calls so many inject a frame. */
    private final int strangeness;
    private final boolean gentle;
    private final InterleavedLink x = new InterleavedLink();
    private final SecondReading y = new SecondReading();
    private int calls = 0;

    private RandomRunsTest(Due due, int run) {
        this.due = due;
        this.run = run;
        this.random = new Random(run);
        this.strangeness = new int[] {0, 5, 40, 150}[run % 4];
        this.gentle = run % 8 < 4;
    }

    public static void main(String[] args) {
        Due due = new Due();
        for (int run = 0; run < RUNS && due.wrong() == 0; run++) {
            new RandomRunsTest(due, run).go();
        }
        due.finish();
    }

    private void go() {
        int changesOfTen = 5 + run % 5;
        while (calls < CALLS && due.wrong() == 0) {
            if (random.nextInt(10) >= changesOfTen) {
                look();
            } else if (random.nextInt(1000) < strangeness) {
                injectOne();
            } else {
                callOne();
            }
        }
    }

    private boolean rarely() {
        return random.nextInt(1000) < (strangeness == 0 ? 0 : 4);
    }

    private int pick(int[] from) {
        return from[random.nextInt(from.length)];
    }

    private int end() {
        return rarely() ? pick(ODD_NUMBERS) : random.nextInt(2);
    }

    /** In some runs an end seldom gets its frames, so that the pipe towards it fills. */
    private int gettingEnd() {
        int slow = run / 8 % 4;
        int end = end();
        return end == slow && random.nextInt(12) != 0 ? 1 - end : end;
    }

    private int stream() {
        if (rarely()) {
            return pick(ODD_NUMBERS);
        }
        int near = random.nextInt(3) == 0 ? 12 : 4;
        return 2 * random.nextInt(near) + 1;
    }

    private int upTo(int most) {
        if (rarely()) {
            return random.nextBoolean() ? most + 1 : pick(ODD_NUMBERS);
        }
        return random.nextInt(most + 1);
    }

    private int value() {
        return random.nextInt(3) == 0 ? pick(VALUES) : random.nextInt(4);
    }

    private void is(String call, long got, long want) {
        calls++;
        due.is("run " + run + ": " + call, got, want);
    }

    private void is(String call, boolean got, boolean want) {
        is(call, got ? 1 : 0, want ? 1 : 0);
    }

    private void callOne() {
        boolean flag = random.nextInt(gentle ? 6 : 2) == 0;
        switch (random.nextInt(22)) {
            case 0, 1, 2 -> header(end());
            case 3, 4 -> is("request(" + flag + ")", x.request(flag), y.request(flag));
            case 5, 6 -> respond(stream(), flag);
            case 7, 8, 9 -> write(end(), stream(), flag);
            case 10, 11 -> pump(end(), upTo(8));
            case 12, 13 -> read(end(), stream(), upTo(7));
            case 14 -> settingOrReset(end());
            default -> deliver(gettingEnd());
        }
    }

    private void header(int end) {
        int name = upTo(random.nextInt(3) == 0 ? 15 : 4);
        int value = value();
        boolean secret = random.nextInt(4) == 0;
        is("header(" + end + ", " + name + ", " + value + ", " + secret + ")",
                x.header(end, name, value, secret), y.header(end, name, value, secret));
    }

    private void respond(int stream, boolean flag) {
        is("respond(" + stream + ", " + flag + ")", x.respond(stream, flag), y.respond(stream, flag));
    }

    private void write(int end, int stream, boolean flag) {
        long bytes = random.nextLong();
        int n = upTo(8);
        is("write(" + end + ", " + stream + ", " + bytes + ", " + n + ", " + flag + ")",
                x.write(end, stream, bytes, n, flag), y.write(end, stream, bytes, n, flag));
    }

    private void pump(int end, int n) {
        is("pump(" + end + ", " + n + ")", x.pump(end, n), y.pump(end, n));
    }

    private void read(int end, int stream, int n) {
        is("read(" + end + ", " + stream + ", " + n + ")", x.read(end, stream, n), y.read(end, stream, n));
    }

    private void settingOrReset(int end) {
        if (random.nextInt(3) == 0) {
            int stream = stream();
            int code = upTo(15);
            is("reset(" + end + ", " + stream + ", " + code + ")", x.reset(end, stream, code), y.reset(end, stream, code));
            return;
        }
        int setting = rarely() ? upTo(9) : pick(SETTINGS);
        int value = setting == 3 && gentle ? 4 + upTo(8) : upTo(setting == 1 ? 200 : setting == 3 ? 13 : 64);
        is("setting(" + end + ", " + setting + ", " + value + ")", x.setting(end, setting, value), y.setting(end, setting, value));
    }

    private void deliver(int end) {
        int times = random.nextInt(4) == 0 ? 4 : 1;
        for (int k = 0; k < times && calls < CALLS; k++) {
            is("deliver(" + end + ")", x.deliver(end), y.deliver(end));
        }
    }

    private void injectOne() {
        int end = end();
        int kind = rarely() ? random.nextInt(10) : pick(KINDS);
        if (kind == 7 && random.nextInt(4) != 0) {
            kind = 8;
        }
        int stream = stream();
        for (int k = 0; k < 6 && y.state(end, stream) < 1 && random.nextInt(30) != 0; k++) {
            stream = stream();
        }
        if (kind == 4) {
            stream = random.nextInt(6);
        } else if (kind == 8 && random.nextInt(4) == 0) {
            stream = 0;
        }
        int number = switch (random.nextInt(40)) {
            case 0 -> pick(ODD_NUMBERS);
            case 1 -> random.nextInt(200);
            default -> 1 + random.nextInt(kind == 1 ? 6 : kind == 4 ? 12 : 15);
        };
        if (kind == 8 && stream != 0) {
            number = random.nextInt(6) == 0 ? -random.nextInt(2) : random.nextInt(195);
        }
        boolean flag = random.nextInt(kind == 4 ? 12 : 3) == 0;
        is("inject(" + end + ", " + kind + ", " + stream + ", " + number + ", " + flag + ")",
                x.inject(end, kind, stream, number, flag), y.inject(end, kind, stream, number, flag));
    }

    private void look() {
        int end = end();
        int stream = stream();
        boolean flag = random.nextBoolean();
        String at = "(" + end + ", " + stream + ", " + flag + ")";
        switch (random.nextInt(10)) {
            case 0 -> is("down(" + end + ")", x.down(end), y.down(end));
            case 1 -> is("state" + at, x.state(end, stream), y.state(end, stream));
            case 2 -> is("window" + at, x.window(end, stream, flag), y.window(end, stream, flag));
            case 3 -> is("window of the link" + at, x.window(end, 0, flag), y.window(end, 0, flag));
            case 4 -> is("bytes" + at, x.bytes(end, stream, flag), y.bytes(end, stream, flag));
            case 5 -> lookAtField(end, stream, upTo(6), flag);
            case 6, 7 -> lookAtTable(end, flag, upTo(9) - 3);
            default -> lookAtFrame(end, upTo(5));
        }
    }

    private void lookAtField(int end, int stream, int k, boolean value) {
        is("field(" + end + ", " + stream + ", " + k + ", " + value + ")",
                x.field(end, stream, k, value), y.field(end, stream, k, value));
    }

    private void lookAtTable(int end, boolean getting, int k) {
        is("table(" + end + ", " + getting + ", " + k + ")", x.table(end, getting, k), y.table(end, getting, k));
    }

    private void lookAtFrame(int end, int what) {
        int count = 0;
        while (y.frame(end, count, 0) != -1) {
            count++;
        }
        int k = random.nextInt(3) == 0 ? count - 1 : random.nextInt(count + 2) - 1;
        is("frame(" + end + ", " + k + ", " + what + ")", x.frame(end, k, what), y.frame(end, k, what));
    }
}
