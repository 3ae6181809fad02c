import java.util.Random;

/** What the end of 'Terms' says of all calls that are refused. */
public final class EdgesOfRefusalsTest {
    private static final int RUNS = 1500;
    private static final int CALLS = 512;

    public static void main(String[] args) {
        Sentences s = new Sentences();
        s.holds("A call that is refused, which NONE or FULL or false says, changes nothing.",
                EdgesOfRefusalsTest::changesNothing);
        s.holds("NONE is tested before FULL (request).", EdgesOfRefusalsTest::requests);
        s.holds("NONE is tested before FULL (respond).", EdgesOfRefusalsTest::responses);
        s.holds("NONE is tested before FULL (read).", EdgesOfRefusalsTest::reads);
        s.holds("NONE is tested before FULL (deliver).", EdgesOfRefusalsTest::deliveries);
        s.holds("FULL, for an end, is when the pipe towards the other end has 30 frames or more.",
                EdgesOfRefusalsTest::full);
        s.holds("An end that is down refuses every call of its own that changes something (NONE or false).",
                EdgesOfRefusalsTest::down);
        s.finish();
    }

    private static void changesNothing(Due due) {
        for (int run = 0; run < RUNS && due.wrong() == 0; run++) {
            oneRun(due, run);
        }
    }

    /** One link has all calls, the other one only those that the first did not refuse. */
    private static void oneRun(Due due, int run) {
        InterleavedLink all = new InterleavedLink();
        InterleavedLink kept = new InterleavedLink();
        Random random = new Random(run);
        boolean pipesFill = run % 3 == 0;
        for (int k = 0; k < CALLS && due.wrong() == 0; k++) {
            int which = random.nextInt(24);
            if (which > 14 && which < 23 && pipesFill && k % 200 < 150) {
                which -= 12;
            }
            long seed = random.nextLong();
            long answer = call(all, which, new Random(seed));
            if (!isRefusal(which, answer)) {
                due.is("run " + run + ", call " + k, call(kept, which, new Random(seed)), answer);
            }
        }
    }

    private static boolean isRefusal(int which, long answer) {
        boolean answersBoolean = which >= 12 && which <= 14;
        boolean looks = which == 23;
        return !looks && (answersBoolean ? answer == 0 : answer < 0);
    }

    private static long call(InterleavedLink x, int which, Random random) {
        int end = random.nextInt(40) == 0 ? random.nextInt(4) - 1 : random.nextInt(2);
        int stream = random.nextInt(10) == 0 ? random.nextInt(28) - 2 : 2 * random.nextInt(3) + 1;
        int n = random.nextInt(10) - (random.nextInt(10) == 0 ? 1 : 0);
        boolean flag = random.nextInt(4) == 0;
        switch (which) {
            case 0, 1, 2:
                return x.header(end, random.nextInt(18) - 1, random.nextInt(3), flag);
            case 3, 4:
                return x.request(flag);
            case 5, 6:
                return x.respond(stream, flag);
            case 7, 8:
                return x.write(end, stream, random.nextLong(), n, flag);
            case 9:
                return x.pump(end, n);
            case 10, 11:
                return x.read(end, stream, n);
            case 12:
                return random.nextInt(3) == 0 && x.reset(end, stream, random.nextInt(18) - 1) ? 1 : 0;
            case 13:
                return x.setting(end, random.nextInt(6), random.nextInt(70) - 2) ? 1 : 0;
            case 14:
                return inject(x, end, stream, random) ? 1 : 0;
            case 23:
                return look(x, end, stream, flag, random);
            default:
                return x.deliver(end);
        }
    }

    private static boolean inject(InterleavedLink x, int end, int stream, Random random) {
        int kind = random.nextInt(11) - 1;
        boolean rare = kind == 7 || kind == 1;
        return (!rare || random.nextInt(8) == 0) && x.inject(end, kind, stream, random.nextInt(19) - 2, false);
    }

    private static long look(InterleavedLink x, int end, int stream, boolean flag, Random random) {
        switch (random.nextInt(7)) {
            case 0:
                return x.frame(end, random.nextInt(31), random.nextInt(6));
            case 1:
                return x.state(end, stream);
            case 2:
                return x.window(end, random.nextBoolean() ? 0 : stream, flag);
            case 3:
                return x.bytes(end, stream, flag);
            case 4:
                return x.field(end, stream, random.nextInt(4), flag);
            case 5:
                return x.table(end, flag, random.nextInt(6) - 3);
            default:
                return x.down(end);
        }
    }

    /** A link of which the pipe towards the end has 30 frames. */
    private static InterleavedLink filled(InterleavedLink x, int end) {
        Scenes.fill(x, end, 30);
        return x;
    }

    private static InterleavedLink withField(InterleavedLink x, int end) {
        x.header(end, 8, 8, false);
        return x;
    }

    private static void requests(Due due) {
        due.is("FULL", filled(withField(Scenes.requested(1), 0), 1).request(false), -2);
        due.is("an empty list", filled(Scenes.requested(1), 1).request(false), -1);
        due.is("down", filled(Scenes.fallen(withField(Scenes.requested(1), 0), 0), 1).request(false), -1);
        due.is("23 was opened", filled(withField(Scenes.requested(12), 0), 1).request(false), -1);
        InterleavedLink most = withField(Scenes.requested(1), 0);
        Scenes.set(most, 1, 3, 1);
        due.is("as many as told", filled(most, 1).request(false), -1);
    }

    private static void responses(Due due) {
        due.is("FULL", filled(withField(Scenes.requested(1), 1), 0).respond(1, false), -2);
        due.is("an empty list", filled(Scenes.requested(1), 0).respond(1, false), -1);
        due.is("down", filled(Scenes.fallen(withField(Scenes.requested(1), 1), 1), 0).respond(1, false), -1);
        due.is("IDLE", filled(withField(Scenes.requested(1), 1), 0).respond(3, false), -1);
        due.is("no stream", filled(withField(Scenes.requested(1), 1), 0).respond(2, false), -1);
        due.is("responded", filled(withField(Scenes.responded(1), 1), 0).respond(1, false), -1);
        due.is("CLOSED", filled(withField(Scenes.in(Scenes.CLOSED, 1), 1), 0).respond(1, false), -1);
        due.is("cut", filled(withField(Scenes.in(Scenes.CUT, 1), 1), 0).respond(1, false), -1);
    }

    private static void reads(Due due) {
        for (int end = 0; end < 2; end++) {
            due.is("FULL", filled(Scenes.responded(1), 1 - end).read(end, 1, 1), -2);
            due.is("no end", filled(Scenes.responded(1), 1 - end).read(2, 1, 1), -1);
            due.is("down", filled(Scenes.fallen(Scenes.responded(1), end), 1 - end).read(end, 1, 1), -1);
            due.is("no stream", filled(Scenes.responded(1), 1 - end).read(end, 0, 1), -1);
            due.is("IDLE", filled(Scenes.responded(1), 1 - end).read(end, 3, 1), -1);
            due.is("n 0", filled(Scenes.responded(1), 1 - end).read(end, 1, 0), -1);
            due.is("n 8", filled(Scenes.responded(1), 1 - end).read(end, 1, 8), -1);
        }
    }

    private static void deliveries(Due due) {
        for (int end = 0; end < 2; end++) {
            InterleavedLink x = Scenes.responded(1);
            Scenes.overfill(x, 1 - end, 40);
            due.is("an empty pipe", x.deliver(end), -1);
            due.is("no end", x.deliver(2), -1);
            x.inject(end, 8, 0, 1, false);
            due.is("FULL", x.deliver(end), -2);
        }
    }

    private static void full(Due due) {
        for (int frames = 29; frames <= 31; frames++) {
            boolean has = frames < 30;
            InterleavedLink x = withField(Scenes.responded(2), 0);
            Scenes.overfill(x, 1, frames);
            if (has) {
                x.deliver(1);
            }
            due.is("request", x.request(false), has ? 5 : -2);
            InterleavedLink y = withField(Scenes.requested(2), 1);
            Scenes.overfill(y, 0, frames);
            if (has) {
                y.deliver(0);
            }
            due.is("respond", y.respond(1, false), has ? 1 : -2);
            for (int end = 0; end < 2; end++) {
                for (int which = 0; which < 3; which++) {
                    InterleavedLink z = Scenes.responded(2);
                    Scenes.overfill(z, 1 - end, frames);
                    if (has) {
                        z.deliver(1 - end);
                    }
                    if (which == 0) {
                        due.is("read", z.read(end, 1, 1), has ? 0 : -2);
                    } else {
                        due.is("reset, setting", which == 1 ? number(z.reset(end, 1, 1)) : number(z.setting(end, 1, 1)),
                                number(has));
                    }
                }
            }
        }
    }

    private static int number(boolean answer) {
        return answer ? 1 : 0;
    }

    private static void down(Due due) {
        for (int end = 0; end < 2; end++) {
            for (int kind : new int[] {3, 7}) {
                InterleavedLink x = Scenes.requested(2);
                Scenes.respond(x, 1, false);
                Scenes.settle(x);
                withField(x, end);
                x.write(end, 1, 0, 2, false);
                Scenes.got(x, end, 0, 1, 2);
                due.is("up", x.down(end), 0);
                Scenes.got(x, end, kind, 0, 0);
                due.is("header", x.header(end, 8, 9, false), -1);
                due.is("request or respond", end == 0 ? x.request(false) : x.respond(3, false), -1);
                due.is("write", x.write(end, 1, 0, 1, false), -1);
                due.is("pump", x.pump(end, 1), -1);
                due.is("read", x.read(end, 1, 1), -1);
                due.no("reset", x.reset(end, 1, 1));
                due.no("setting", x.setting(end, 4, 1));
                due.is("what waits", x.bytes(end, 1, false), 2);
                due.is("what is unread", x.bytes(end, 1, true), 2);
                due.frames("FAREWELL at most", x, 1 - end, kind == 3 ? 1 : 0);
                int other = 1 - end;
                due.is("the other end: header", x.header(other, 8, 9, false), 1);
                due.is("the other end: request or respond", other == 0 ? x.request(false) : x.respond(3, false),
                        other == 0 ? 5 : 1);
                due.is("the other end: write", x.write(other, 1, 0, 1, false), 1);
                due.is("the other end: pump", x.pump(other, 1), 1);
                due.is("the other end: read", x.read(other, 1, 1), 0);
                due.yes("the other end: setting", x.setting(other, 4, 1));
                due.yes("the other end: reset", x.reset(other, 1, 1));
            }
        }
    }
}
