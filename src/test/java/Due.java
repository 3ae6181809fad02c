/** Counts the answers of one test that are not as due. */
final class Due {
    private int wrong = 0;

    void is(String call, long got, long want) {
        if (got != want) {
            wrong++;
            if (wrong <= 50) {
                System.out.println(call + " answered " + got + ", due is " + want);
            }
        }
    }

    void yes(String call, boolean got) {
        is(call, got ? 1 : 0, 1);
    }

    void no(String call, boolean got) {
        is(call, got ? 1 : 0, 0);
    }

    int wrong() {
        return wrong;
    }

    /** The kind, stream number, amount and flag of a frame. */
    void frame(String what, InterleavedLink x, int end, int k, int... want) {
        for (int part = 0; part < want.length; part++) {
            is(what + ": frame(" + end + ", " + k + ", " + part + ")", x.frame(end, k, part), want[part]);
        }
    }

    void finish() {
        System.out.println(wrong == 0 ? "all answers are as due" : wrong + " answers are not as due");
        if (wrong != 0) {
            System.exit(1);
        }
    }
}
