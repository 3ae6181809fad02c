import java.util.ArrayList;
import java.util.LinkedList;
import java.util.List;
import java.util.TreeMap;

/** The document written down a second time, with the Java library and without a thought of cost, to compare with. */
final class SecondReading {
    enum State { IDLE, OPEN, HALF_LOCAL, HALF_REMOTE, CLOSED }

    record Field(int name, int value) {
        int size() {
            if (value < 0 || value > 0xFFFFFF) {
                return 37;
            }
            return value <= 0xFF ? 34 : value <= 0xFFFF ? 35 : 36;
        }
    }

    record Made(Field field, boolean secret) { }

    /** What is one of M (maximum), I (indexed), N (new) and S (secret). */
    record Step(char what, int number, int name, int value) { }

    record Frame(int kind, int stream, List<Integer> bytes, List<Step> steps, int x, int setting, boolean flag) {
        static Frame plain(int kind, int stream, int x) {
            return new Frame(kind, stream, null, null, x, 0, false);
        }
    }

    static final class Str {
        State state = State.IDLE;
        boolean cut = false;
        int send = 0;
        int receive = 0;
        final LinkedList<Integer> waiting = new LinkedList<>();
        final LinkedList<Integer> unread = new LinkedList<>();
        boolean last = false;
        boolean responded = false;
        List<Field> list = null;

        boolean in(State... states) {
            return List.of(states).contains(state);
        }

        boolean active() {
            return in(State.OPEN, State.HALF_LOCAL, State.HALF_REMOTE);
        }
    }

    static final class Tab {
        int maximum = 100;
        final LinkedList<Field> fields = new LinkedList<>();

        int sum() {
            return fields.stream().mapToInt(Field::size).sum();
        }

        Field meant(int index) {
            List<Field> all = new ArrayList<>(List.of(new Field(0, 0), new Field(0, 1), new Field(1, 0),
                    new Field(2, 20), new Field(2, 40), new Field(3, 0)));
            all.addAll(fields);
            return index < 1 || index > all.size() ? null : all.get(index - 1);
        }

        int find(Field field, boolean nameOnly) {
            for (int index = 1; meant(index) != null; index++) {
                Field there = meant(index);
                if (nameOnly ? there.name() == field.name() : there.equals(field)) {
                    return index;
                }
            }
            return 0;
        }

        void add(Field field) {
            while (!fields.isEmpty() && sum() + field.size() > maximum) {
                fields.removeLast();
            }
            if (sum() + field.size() <= maximum) {
                fields.addFirst(field);
            }
        }

        void maximum(int m) {
            maximum = m;
            while (sum() > m) {
                fields.removeLast();
            }
        }
    }

    static final class Side {
        int down = 0;
        final LinkedList<Frame> pipe = new LinkedList<>();
        final TreeMap<Integer, Str> streams = new TreeMap<>();
        int send = 40;
        int receive = 40;
        final List<Made> making = new ArrayList<>();
        final Tab sending = new Tab();
        final Tab getting = new Tab();
        final TreeMap<Integer, Integer> told = new TreeMap<>();
        final TreeMap<Integer, Integer> force = new TreeMap<>();
        final LinkedList<int[]> unacked = new LinkedList<>();
        final List<Integer> limitsTold = new ArrayList<>();
        boolean lowered = false;
        int opened = -1;
        int lastSent = 0;

        Side() {
            for (int s = 1; s < 24; s += 2) {
                streams.put(s, new Str());
            }
            for (TreeMap<Integer, Integer> settings : List.of(told, force)) {
                settings.put(1, 100);
                settings.put(3, 12);
                settings.put(4, 16);
            }
        }

        long actives() {
            return streams.values().stream().filter(Str::active).count();
        }
    }

    private final Side[] sides = {new Side(), new Side()};

    private static boolean end(int end) {
        return end == 0 || end == 1;
    }

    private boolean dead(int end) {
        return !end(end) || sides[end].down != 0;
    }

    private Str str(int end, int stream) {
        return sides[end].streams.get(stream);
    }

    private void send(int end, Frame frame) {
        sides[1 - end].pipe.add(frame);
    }

    private boolean full(int end) {
        return sides[1 - end].pipe.size() >= 30;
    }

    private void giveBack(int end, int n) {
        if (n > 0) {
            sides[end].receive += n;
            send(end, Frame.plain(8, 0, n));
        }
    }

    private int cut(Str s) {
        s.state = State.CLOSED;
        s.cut = true;
        s.waiting.clear();
        int dropped = s.unread.size();
        s.unread.clear();
        return dropped;
    }

    private static void sentEnd(Str s) {
        if (s.state == State.OPEN) {
            s.state = State.HALF_LOCAL;
        } else if (s.state == State.HALF_REMOTE) {
            s.state = State.CLOSED;
        }
    }

    private static void gotEnd(Str s) {
        if (s.state == State.OPEN) {
            s.state = State.HALF_REMOTE;
        } else if (s.state == State.HALF_LOCAL) {
            s.state = State.CLOSED;
        }
    }

    private void begin(int end, Str s) {
        s.state = State.OPEN;
        s.send = sides[end].told.get(4);
        s.receive = sides[end].force.get(4);
    }

    private List<Step> block(Side side) {
        List<Step> steps = new ArrayList<>();
        if (!side.limitsTold.isEmpty()) {
            int m = side.limitsTold.stream().min(Integer::compare).get();
            int t = side.limitsTold.get(side.limitsTold.size() - 1);
            if (m < t) {
                steps.add(new Step('M', m, 0, 0));
                side.sending.maximum(m);
            }
            steps.add(new Step('M', t, 0, 0));
            side.sending.maximum(t);
            side.limitsTold.clear();
        }
        for (Made made : side.making) {
            Field field = made.field();
            int equal = side.sending.find(field, false);
            int named = side.sending.find(field, true);
            if (made.secret()) {
                steps.add(new Step('S', named, field.name(), field.value()));
            } else if (equal > 0) {
                steps.add(new Step('I', equal, 0, 0));
            } else {
                steps.add(new Step('N', named, field.name(), field.value()));
                side.sending.add(field);
            }
        }
        side.making.clear();
        return steps;
    }

    private void sendHeaders(int end, int stream, boolean last) {
        Str s = str(end, stream);
        send(end, new Frame(1, stream, null, block(sides[end]), 0, 0, last));
        s.responded = true;
        if (last) {
            s.last = true;
            sentEnd(s);
        }
    }

    int header(int end, int name, int value, boolean secret) {
        if (dead(end) || name < 0 || name > 15 || sides[end].making.size() == 6) {
            return -1;
        }
        sides[end].making.add(new Made(new Field(name, value), secret));
        return sides[end].making.size();
    }

    int request(boolean last) {
        Side side = sides[0];
        if (side.down != 0 || side.opened == 23 || side.making.isEmpty() || side.actives() >= side.told.get(3)) {
            return -1;
        }
        if (full(0)) {
            return -2;
        }
        side.opened += 2;
        begin(0, str(0, side.opened));
        sendHeaders(0, side.opened, last);
        return side.opened;
    }

    int respond(int stream, boolean last) {
        Str s = str(1, stream);
        int fields = sides[1].making.size();
        if (dead(1) || s == null || !s.in(State.OPEN, State.HALF_REMOTE) || s.responded || fields == 0) {
            return -1;
        }
        if (full(1)) {
            return -2;
        }
        sendHeaders(1, stream, last);
        return fields;
    }

    int write(int end, int stream, long bytes, int n, boolean last) {
        if (dead(end)) {
            return -1;
        }
        Str s = str(end, stream);
        if (s == null || !s.in(State.OPEN, State.HALF_REMOTE) || end == 1 && !s.responded || n < 0 || n > 8) {
            return -1;
        }
        if (s.waiting.size() + n > 32 || s.last) {
            return -1;
        }
        for (int i = 0; i < n; i++) {
            s.waiting.add((int) (bytes >> 8 * i & 0xFF));
        }
        s.last = last;
        return s.waiting.size();
    }

    int pump(int end, int n) {
        if (dead(end) || n < 1 || n > 8) {
            return -1;
        }
        Side side = sides[end];
        int sent = 0;
        while (sent < n && !full(end)) {
            List<Integer> order = new ArrayList<>(side.streams.tailMap(side.lastSent, false).keySet());
            order.addAll(side.streams.headMap(side.lastSent, true).keySet());
            Integer turn = order.stream().filter(s -> can(side, s)).findFirst().orElse(null);
            if (turn == null) {
                break;
            }
            Str s = side.streams.get(turn);
            List<Integer> bytes = new ArrayList<>();
            while (bytes.size() < 8 && !s.waiting.isEmpty() && s.send > 0 && side.send > 0) {
                bytes.add(s.waiting.removeFirst());
                s.send--;
                side.send--;
            }
            boolean last = s.last && s.waiting.isEmpty();
            send(end, new Frame(0, turn, bytes, null, 0, 0, last));
            if (last) {
                sentEnd(s);
            }
            side.lastSent = turn;
            sent++;
        }
        return sent;
    }

    private static boolean can(Side side, int stream) {
        Str s = side.streams.get(stream);
        if (!s.in(State.OPEN, State.HALF_REMOTE)) {
            return false;
        }
        return s.waiting.isEmpty() ? s.last : s.send > 0 && side.send > 0;
    }

    long read(int end, int stream, int n) {
        if (dead(end) || str(end, stream) == null || str(end, stream).state == State.IDLE || n < 1 || n > 7) {
            return -1;
        }
        if (full(end)) {
            return -2;
        }
        Str s = str(end, stream);
        long answer = 0;
        int taken = 0;
        while (taken < n && !s.unread.isEmpty()) {
            answer += (long) s.unread.removeFirst() << 8 * taken;
            taken++;
        }
        giveBack(end, taken);
        if (taken > 0 && s.in(State.OPEN, State.HALF_LOCAL)) {
            s.receive += taken;
            send(end, Frame.plain(8, stream, taken));
        }
        return answer;
    }

    boolean reset(int end, int stream, int code) {
        if (dead(end) || str(end, stream) == null || !str(end, stream).active() || code < 0 || code > 15 || full(end)) {
            return false;
        }
        send(end, Frame.plain(3, stream, code));
        giveBack(end, cut(str(end, stream)));
        return true;
    }

    private static boolean ranged(int setting, int value) {
        return value >= 0 && value <= (setting == 1 ? 200 : setting == 3 ? 12 : 64);
    }

    boolean setting(int end, int setting, int value) {
        if (dead(end) || !List.of(1, 3, 4).contains(setting) || !ranged(setting, value)) {
            return false;
        }
        if (sides[end].unacked.size() == 8 || full(end)) {
            return false;
        }
        sides[end].unacked.add(new int[] {setting, value});
        send(end, new Frame(4, 0, null, null, value, setting, false));
        return true;
    }

    int deliver(int end) {
        if (!end(end) || sides[end].pipe.isEmpty()) {
            return -1;
        }
        if (sides[end].down == 0 && sides[1 - end].pipe.size() >= 40) {
            return -2;
        }
        Frame frame = sides[end].pipe.removeFirst();
        if (sides[end].down != 0) {
            return 0;
        }
        return switch (frame.kind()) {
            case 0 -> data(end, frame);
            case 1 -> headers(end, frame);
            case 3 -> resetCame(end, frame);
            case 4 -> settings(end, frame);
            case 7 -> farewell(end, frame);
            default -> windowCame(end, frame);
        };
    }

    private int linkError(int end, int c) {
        send(end, Frame.plain(7, 0, c));
        sides[end].down = 100 + c;
        return 100 + c;
    }

    private int streamError(int end, int stream, int c, int more) {
        send(end, Frame.plain(3, stream, c));
        giveBack(end, cut(str(end, stream)) + more);
        return c;
    }

    private int data(int end, Frame frame) {
        Str s = str(end, frame.stream());
        int n = frame.bytes().size();
        if (s == null || s.state == State.IDLE) {
            return linkError(end, 1);
        }
        if (n > sides[end].receive) {
            return linkError(end, 3);
        }
        sides[end].receive -= n;
        if (s.state == State.CLOSED && s.cut) {
            giveBack(end, n);
            return 0;
        }
        if (s.in(State.CLOSED, State.HALF_REMOTE)) {
            return streamError(end, frame.stream(), 5, n);
        }
        if (s.list == null) {
            return streamError(end, frame.stream(), 1, n);
        }
        if (n > 0 && n > s.receive) {
            return streamError(end, frame.stream(), 3, n);
        }
        s.receive -= n;
        s.unread.addAll(frame.bytes());
        if (frame.flag()) {
            gotEnd(s);
        }
        return 0;
    }

    /** Null when a step is wrong. */
    private List<Field> get(Side side, List<Step> steps) {
        List<Field> fields = new ArrayList<>();
        boolean due = side.lowered;
        side.lowered = false;
        for (Step step : steps) {
            Tab table = side.getting;
            if (step.what() == 'M') {
                if (!fields.isEmpty() || step.number() > side.force.get(1)) {
                    return null;
                }
                table.maximum(step.number());
                due = false;
                continue;
            }
            Field meant = table.meant(step.number());
            boolean literal = step.what() != 'I' && step.number() == 0;
            if (due || meant == null && !literal) {
                return null;
            }
            Field field = step.what() == 'I' ? meant : new Field(literal ? step.name() : meant.name(), step.value());
            fields.add(field);
            if (step.what() == 'N') {
                table.add(field);
            }
        }
        return fields;
    }

    private int headers(int end, Frame frame) {
        Side side = sides[end];
        Str s = str(end, frame.stream());
        if (s == null || end == 0 && s.state == State.IDLE) {
            return linkError(end, 1);
        }
        List<Field> list = get(side, frame.steps());
        if (list == null) {
            return linkError(end, 9);
        }
        if (s.state == State.IDLE) {
            for (Str lower : side.streams.headMap(frame.stream()).values()) {
                if (lower.state == State.IDLE) {
                    lower.state = State.CLOSED;
                }
            }
            if (side.actives() >= side.force.get(3)) {
                send(end, Frame.plain(3, frame.stream(), 7));
                s.state = State.CLOSED;
                s.cut = true;
                return 7;
            }
            begin(end, s);
        } else if (s.state == State.CLOSED) {
            return s.cut ? 0 : linkError(end, 5);
        } else if (s.state == State.HALF_REMOTE) {
            return streamError(end, frame.stream(), 5, 0);
        } else if (s.list != null) {
            return streamError(end, frame.stream(), 1, 0);
        }
        s.list = list;
        if (frame.flag()) {
            gotEnd(s);
        }
        return 0;
    }

    private int resetCame(int end, Frame frame) {
        Str s = str(end, frame.stream());
        if (s == null || s.state == State.IDLE) {
            return linkError(end, 1);
        }
        if (s.active()) {
            giveBack(end, cut(s));
        }
        return 0;
    }

    private int settings(int end, Frame frame) {
        Side side = sides[end];
        if (frame.flag()) {
            if (side.unacked.isEmpty()) {
                return linkError(end, 1);
            }
            int[] oldest = side.unacked.removeFirst();
            int before = side.force.put(oldest[0], oldest[1]);
            if (oldest[0] == 1 && oldest[1] < side.getting.maximum) {
                side.lowered = true;
            }
            if (oldest[0] == 4) {
                side.streams.values().stream().filter(Str::active).forEach(s -> s.receive += oldest[1] - before);
            }
            return 0;
        }
        if (side.told.containsKey(frame.setting())) {
            if (!ranged(frame.setting(), frame.x())) {
                return linkError(end, frame.setting() == 4 ? 3 : 1);
            }
            int before = side.told.put(frame.setting(), frame.x());
            if (frame.setting() == 1) {
                side.limitsTold.add(frame.x());
            }
            if (frame.setting() == 4) {
                side.streams.values().stream().filter(Str::active).forEach(s -> s.send += frame.x() - before);
            }
        }
        send(end, new Frame(4, 0, null, null, 0, 0, true));
        return 0;
    }

    private int farewell(int end, Frame frame) {
        sides[end].down = 200 + frame.x();
        return 0;
    }

    private int windowCame(int end, Frame frame) {
        Side side = sides[end];
        int x = frame.x();
        if (frame.stream() == 0) {
            if (x < 1 || (long) side.send + x > 200) {
                return linkError(end, x < 1 ? 1 : 3);
            }
            side.send += x;
            return 0;
        }
        Str s = str(end, frame.stream());
        if (s == null || s.state == State.IDLE) {
            return linkError(end, 1);
        }
        if (s.state == State.CLOSED) {
            return 0;
        }
        if (x < 1 || (long) s.send + x > 200) {
            return streamError(end, frame.stream(), x < 1 ? 1 : 3, 0);
        }
        s.send += x;
        return 0;
    }

    boolean inject(int end, int kind, int stream, int x, boolean flag) {
        if (!end(end) || !List.of(0, 1, 3, 4, 7, 8).contains(kind) || sides[end].pipe.size() >= 30) {
            return false;
        }
        if ((kind == 0 || kind == 7) && (x < 0 || x > 15)) {
            return false;
        }
        sides[end].pipe.add(switch (kind) {
            case 0 -> new Frame(0, stream, java.util.Collections.nCopies(x, 0), null, 0, 0, flag);
            case 1 -> new Frame(1, stream, null, List.of(new Step('I', x, 0, 0)), 0, 0, flag);
            case 4 -> new Frame(4, 0, null, null, flag ? 0 : x, flag ? 0 : stream, flag);
            case 7 -> Frame.plain(7, 0, x);
            default -> Frame.plain(kind, stream, x);
        });
        return true;
    }

    int frame(int end, int k, int what) {
        if (!end(end) || k < 0 || k >= sides[end].pipe.size()) {
            return -1;
        }
        Frame frame = sides[end].pipe.get(k);
        return switch (what) {
            case 0 -> frame.kind();
            case 1 -> frame.stream();
            case 2 -> frame.kind() == 0 ? frame.bytes().size() : frame.kind() == 1 ? frame.steps().size() : frame.x();
            case 3 -> frame.flag() ? 1 : 0;
            case 4 -> frame.kind() == 1 ? frame.steps().stream().mapToInt(Step::number).sum() : frame.setting();
            default -> -1;
        };
    }

    int state(int end, int stream) {
        return end(end) && str(end, stream) != null ? str(end, stream).state.ordinal() : -1;
    }

    int window(int end, int stream, boolean receiving) {
        if (!end(end)) {
            return 0;
        }
        if (stream == 0) {
            return receiving ? sides[end].receive : sides[end].send;
        }
        Str s = str(end, stream);
        return s == null || !s.active() ? 0 : receiving ? s.receive : s.send;
    }

    int bytes(int end, int stream, boolean receiving) {
        if (!end(end) || str(end, stream) == null) {
            return -1;
        }
        return (receiving ? str(end, stream).unread : str(end, stream).waiting).size();
    }

    int field(int end, int stream, int k, boolean value) {
        if (!end(end) || str(end, stream) == null || str(end, stream).list == null) {
            return -1;
        }
        List<Field> list = str(end, stream).list;
        if (k < 0 || k >= list.size()) {
            return -1;
        }
        return value ? list.get(k).value() : list.get(k).name();
    }

    int table(int end, boolean getting, int k) {
        if (!end(end) || k < -2) {
            return -1;
        }
        Tab table = getting ? sides[end].getting : sides[end].sending;
        if (k < 0) {
            return k == -1 ? table.sum() : table.maximum;
        }
        return k < table.fields.size() ? table.fields.get(k).value() : 0;
    }

    int down(int end) {
        return end(end) ? sides[end].down : -1;
    }
}
