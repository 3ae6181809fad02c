import java.util.Arrays;

/** Two ends that exchange requests and responses as streams of frames; DOC.md tells every rule. */
public final class InterleavedLink {
    public static final int NONE = -1;
    public static final int FULL = -2;

    private static final int DATA = 0;
    private static final int HEADERS = 1;
    private static final int RESET = 3;
    private static final int SETTINGS = 4;
    private static final int FAREWELL = 7;
    private static final int WINDOW = 8;

    private static final int IDLE = 0;
    private static final int OPEN = 1;
    private static final int HALF_LOCAL = 2;
    private static final int HALF_REMOTE = 3;
    private static final int CLOSED = 4;

    private static final int BAD_PROTOCOL = 1;
    private static final int BAD_FLOW = 3;
    private static final int BAD_CLOSED = 5;
    private static final int REFUSED = 7;
    private static final int BAD_BLOCK = 9;
    private static final int OWN_ERROR = 100;
    private static final int OTHERS_FAREWELL = 200;

    private static final int TABLE_LIMIT = 1;
    private static final int MOST_STREAMS = 3;
    private static final int FIRST_WINDOW = 4;

    private static final int MAXIMUM = 0;
    private static final int INDEXED = 1;
    private static final int NEW = 2;
    private static final int SECRET = 3;

    private static final int STREAMS = 12;
    private static final int TOP_STREAM = 23;
    private static final int TOP_NAME = 15;
    private static final int TOP_CODE = 15;
    private static final int TOP_INJECTED = 15;
    private static final int LIST_ROOM = 6;
    private static final int BLOCK_ROOM = 8;
    private static final int FRAME_BYTES = 8;
    private static final int WRITE_BYTES = 8;
    private static final int READ_BYTES = 7;
    private static final int PUMP_FRAMES = 8;
    private static final int MOST_WAITING = 32;
    private static final int LINK_WINDOW = 40;
    private static final int TOP_SEND_WINDOW = 200;
    private static final int PENDING_ROOM = 8;
    private static final int PIPE_FULL = 30;
    private static final int DELIVER_FULL = 40;
    // A delivery at 39 frames sends two at most, so a pipe never holds more than 41.
    private static final int PIPE_ROOM = 48;
    // The smallest field has the size 34, and no maximum is above 200.
    private static final int TABLE_ROOM = 5;

    private static final int FIXED_COUNT = 6;
    private static final int[] FIXED_NAMES = {0, 0, 1, 2, 2, 3};
    private static final int[] FIXED_VALUES = {0, 1, 0, 20, 40, 0};

    private final End[] ends;

    public InterleavedLink() {
        Pipe towardsRequester = new Pipe();
        Pipe towardsResponder = new Pipe();
        ends = new End[2];
        ends[0] = new End(true, towardsRequester, towardsResponder);
        ends[1] = new End(false, towardsResponder, towardsRequester);
    }

    public int header(int end, int name, int value, boolean secret) {
        End here = upEndOf(end);
        if (here == null || !isWithin(name, 0, TOP_NAME) || here.making.count >= LIST_ROOM) {
            return NONE;
        }
        here.making.add(name, value, secret);
        return here.making.count;
    }

    public int request(boolean last) {
        End here = upEndOf(0);
        if (here == null || !here.mayOpen()) {
            return NONE;
        }
        if (here.outgoing.isFull()) {
            return FULL;
        }
        return here.openStream(last);
    }

    public int respond(int stream, boolean last) {
        End here = upEndOf(1);
        Stream its = streamOf(here, stream);
        if (here == null || its == null || !its.maySend() || its.headersSent || here.making.count == 0) {
            return NONE;
        }
        if (here.outgoing.isFull()) {
            return FULL;
        }
        int count = here.making.count;
        here.sendHeaders(its, last);
        return count;
    }

    public int write(int end, int stream, long bytes, int n, boolean last) {
        Stream its = streamOf(upEndOf(end), stream);
        if (its == null || !its.maySend() || !its.headersSent || its.lastSaid) {
            return NONE;
        }
        if (!isWithin(n, 0, WRITE_BYTES) || its.waiting.count + n > MOST_WAITING) {
            return NONE;
        }
        its.waiting.addLowest(bytes, n);
        its.lastSaid = last;
        return its.waiting.count;
    }

    public int pump(int end, int n) {
        End here = upEndOf(end);
        if (here == null || !isWithin(n, 1, PUMP_FRAMES)) {
            return NONE;
        }
        return here.sendWaiting(n);
    }

    public long read(int end, int stream, int n) {
        End here = upEndOf(end);
        Stream its = streamOf(here, stream);
        if (here == null || its == null || its.state == IDLE || !isWithin(n, 1, READ_BYTES)) {
            return NONE;
        }
        if (here.outgoing.isFull()) {
            return FULL;
        }
        return here.takeUnread(its, n);
    }

    public boolean reset(int end, int stream, int code) {
        End here = upEndOf(end);
        Stream its = streamOf(here, stream);
        if (here == null || its == null || !its.isActive() || !isWithin(code, 0, TOP_CODE)) {
            return false;
        }
        if (here.outgoing.isFull()) {
            return false;
        }
        here.endWithReset(its, code, 0);
        return true;
    }

    public boolean setting(int end, int setting, int value) {
        End here = upEndOf(end);
        if (here == null || !Settings.isKnown(setting) || !Settings.isInRange(setting, value)) {
            return false;
        }
        if (here.pendingCount >= PENDING_ROOM || here.outgoing.isFull()) {
            return false;
        }
        here.sendSetting(setting, value);
        return true;
    }

    public int deliver(int end) {
        End here = endOf(end);
        if (here == null || here.incoming.count == 0) {
            return NONE;
        }
        boolean drops = here.down != 0;
        if (!drops && here.outgoing.count >= DELIVER_FULL) {
            return FULL;
        }
        Frame frame = here.incoming.takeOldest();
        return drops || frame == null ? 0 : here.getFrame(frame);
    }

    public boolean inject(int end, int kind, int stream, int x, boolean flag) {
        End here = endOf(end);
        if (here == null || here.incoming.isFull()) {
            return false;
        }
        Frame frame = strangeFrame(kind, stream, x, flag);
        if (frame == null) {
            return false;
        }
        here.incoming.add(frame);
        return true;
    }

    public int frame(int end, int k, int what) {
        End here = endOf(end);
        Frame its = here == null ? null : here.incoming.get(k);
        return its == null ? NONE : its.part(what);
    }

    public int state(int end, int stream) {
        Stream its = streamOf(endOf(end), stream);
        return its == null ? NONE : its.state;
    }

    public int window(int end, int stream, boolean receiving) {
        End here = endOf(end);
        if (here != null && stream == 0) {
            return receiving ? here.receiveWindow : here.sendWindow;
        }
        Stream its = streamOf(here, stream);
        if (its == null || !its.isActive()) {
            return 0;
        }
        return receiving ? its.receiveWindow : its.sendWindow;
    }

    public int bytes(int end, int stream, boolean receiving) {
        Stream its = streamOf(endOf(end), stream);
        if (its == null) {
            return NONE;
        }
        return receiving ? its.unread.count : its.waiting.count;
    }

    public int field(int end, int stream, int k, boolean value) {
        Stream its = streamOf(endOf(end), stream);
        if (its == null || its.list == null || !isWithin(k, 0, its.list.count - 1)) {
            return NONE;
        }
        return value ? its.list.values[k] : its.list.names[k];
    }

    public int table(int end, boolean getting, int k) {
        End here = endOf(end);
        if (here == null || k < -2) {
            return NONE;
        }
        Table its = getting ? here.decoder.fields : here.encoder.fields;
        if (k == -2) {
            return its.maximum;
        }
        if (k == -1) {
            return its.sum;
        }
        return k < its.count ? its.values[k] : 0;
    }

    public int down(int end) {
        End here = endOf(end);
        return here == null ? NONE : here.down;
    }

    private End endOf(int end) {
        return end == 0 || end == 1 ? ends[end] : null;
    }

    private End upEndOf(int end) {
        End here = endOf(end);
        return here == null || here.down != 0 ? null : here;
    }

    private static Stream streamOf(End here, int stream) {
        return here == null ? null : here.streamOf(stream);
    }

    private static boolean isWithin(int number, int least, int most) {
        return number >= least && number <= most;
    }

    /** A frame that nobody sent; null when the document has none like it. */
    private static Frame strangeFrame(int kind, int stream, int x, boolean flag) {
        boolean isSmall = isWithin(x, 0, TOP_INJECTED);
        switch (kind) {
            case DATA:
                return isSmall ? Frame.ofData(stream, new byte[x], flag) : null;
            case HEADERS:
                Block block = new Block(1);
                block.add(INDEXED, x, 0, 0);
                return Frame.ofHeaders(stream, block, flag);
            case RESET:
                return Frame.ofReset(stream, x);
            case SETTINGS:
                return flag ? Frame.ofAck() : Frame.ofSetting(stream, x);
            case FAREWELL:
                return isSmall ? Frame.ofFarewell(x) : null;
            case WINDOW:
                return Frame.ofWindow(stream, x);
            default:
                return null;
        }
    }

    /** A frame in a pipe; it never changes. */
    private static final class Frame {
        final int kind;
        final int stream;
        /** Bytes, steps, code, value or increment. */
        final int amount;
        /** END or ACK. */
        final boolean flag;
        /** The setting, or the sum over the steps. */
        final int detail;
        final byte[] payload;
        final Block block;

        private Frame(int kind, int stream, int amount, boolean flag, int detail, byte[] payload, Block block) {
            this.kind = kind;
            this.stream = stream;
            this.amount = amount;
            this.flag = flag;
            this.detail = detail;
            this.payload = payload;
            this.block = block;
        }

        static Frame ofData(int stream, byte[] payload, boolean last) {
            return new Frame(DATA, stream, payload.length, last, 0, payload, null);
        }

        static Frame ofHeaders(int stream, Block block, boolean last) {
            return new Frame(HEADERS, stream, block.count, last, block.sum, null, block);
        }

        static Frame ofReset(int stream, int code) {
            return new Frame(RESET, stream, code, false, 0, null, null);
        }

        static Frame ofSetting(int setting, int value) {
            return new Frame(SETTINGS, 0, value, false, setting, null, null);
        }

        static Frame ofAck() {
            return new Frame(SETTINGS, 0, 0, true, 0, null, null);
        }

        static Frame ofFarewell(int code) {
            return new Frame(FAREWELL, 0, code, false, 0, null, null);
        }

        static Frame ofWindow(int stream, int increment) {
            return new Frame(WINDOW, stream, increment, false, 0, null, null);
        }

        int part(int what) {
            switch (what) {
                case 0:
                    return kind;
                case 1:
                    return stream;
                case 2:
                    return amount;
                case 3:
                    return flag ? 1 : 0;
                case 4:
                    return detail;
                default:
                    return NONE;
            }
        }
    }

    /** The frames on their way to one end, oldest first. */
    private static final class Pipe {
        private final Frame[] row = new Frame[PIPE_ROOM];
        private int first = 0;
        int count = 0;

        boolean isFull() {
            return count >= PIPE_FULL;
        }

        void add(Frame frame) {
            if (count < PIPE_ROOM) {
                row[(first + count) % PIPE_ROOM] = frame;
                count++;
            }
        }

        Frame get(int k) {
            return k >= 0 && k < count ? row[(first + k) % PIPE_ROOM] : null;
        }

        Frame takeOldest() {
            Frame oldest = get(0);
            if (oldest != null) {
                row[first] = null;
                first = (first + 1) % PIPE_ROOM;
                count--;
            }
            return oldest;
        }
    }

    /** A row of bytes that is filled behind and emptied in front. */
    private static final class ByteQueue {
        private final byte[] row;
        int count = 0;

        ByteQueue(int room) {
            row = new byte[room];
        }

        void add(byte[] more) {
            int n = Math.min(more.length, row.length - count);
            System.arraycopy(more, 0, row, count, n);
            count += n;
        }

        /** Adds the n lowest bytes of the number, the lowest first. */
        void addLowest(long number, int n) {
            long rest = number;
            for (int i = 0; i < n && count < row.length; i++) {
                row[count] = (byte) rest;
                count++;
                rest >>>= 8;
            }
        }

        /** Takes the first n bytes, or all if there are fewer. */
        byte[] take(int n) {
            int taken = Math.max(0, Math.min(n, count));
            byte[] bytes = Arrays.copyOf(row, taken);
            System.arraycopy(row, taken, row, 0, count - taken);
            count -= taken;
            return bytes;
        }

        /** Answers how many bytes were dropped. */
        int dropAll() {
            int dropped = count;
            count = 0;
            return dropped;
        }
    }

    /** A header list. */
    private static final class FieldList {
        final int[] names = new int[LIST_ROOM];
        final int[] values = new int[LIST_ROOM];
        final boolean[] secrets = new boolean[LIST_ROOM];
        int count = 0;

        void add(int name, int value, boolean secret) {
            if (count < LIST_ROOM) {
                names[count] = name;
                values[count] = value;
                secrets[count] = secret;
                count++;
            }
        }
    }

    /** A header list as it travels: a row of steps. */
    private static final class Block {
        final int[] kinds;
        /** The index of each step, or its maximum. */
        final int[] numbers;
        final int[] names;
        final int[] values;
        int count = 0;
        int sum = 0;

        Block(int room) {
            kinds = new int[room];
            numbers = new int[room];
            names = new int[room];
            values = new int[room];
        }

        void add(int kind, int number, int name, int value) {
            if (count < kinds.length) {
                kinds[count] = kind;
                numbers[count] = number;
                names[count] = name;
                values[count] = value;
                count++;
                sum += number;
            }
        }
    }

    /** The fields that indexes mean: the fixed ones, and behind them those added, newest first. */
    private static final class Table {
        final int[] names = new int[TABLE_ROOM];
        final int[] values = new int[TABLE_ROOM];
        final int[] sizes = new int[TABLE_ROOM];
        int count = 0;
        int sum = 0;
        int maximum = Settings.FIRST_TABLE_LIMIT;

        boolean hasIndex(int index) {
            return index >= 1 && index <= FIXED_COUNT + count;
        }

        int nameOf(int index) {
            if (!hasIndex(index)) {
                return NONE;
            }
            return index <= FIXED_COUNT ? FIXED_NAMES[index - 1] : names[index - FIXED_COUNT - 1];
        }

        int valueOf(int index) {
            if (!hasIndex(index)) {
                return 0;
            }
            return index <= FIXED_COUNT ? FIXED_VALUES[index - 1] : values[index - FIXED_COUNT - 1];
        }

        int leastEqual(int name, int value) {
            for (int index = 1; index <= FIXED_COUNT + count; index++) {
                if (nameOf(index) == name && valueOf(index) == value) {
                    return index;
                }
            }
            return 0;
        }

        int leastNamed(int name) {
            for (int index = 1; index <= FIXED_COUNT + count; index++) {
                if (nameOf(index) == name) {
                    return index;
                }
            }
            return 0;
        }

        void setMaximum(int newMaximum) {
            maximum = newMaximum;
            dropDownTo(newMaximum);
        }

        void add(int name, int value) {
            int size = sizeOf(value);
            dropDownTo(maximum - size);
            if (sum + size > maximum || count >= TABLE_ROOM) {
                return;
            }
            for (int k = count; k > 0; k--) {
                names[k] = names[k - 1];
                values[k] = values[k - 1];
                sizes[k] = sizes[k - 1];
            }
            names[0] = name;
            values[0] = value;
            sizes[0] = size;
            count++;
            sum += size;
        }

        private void dropDownTo(int most) {
            while (count > 0 && sum > most) {
                count--;
                sum -= sizes[count];
            }
        }

        private static int sizeOf(int value) {
            if (value < 0 || value > 16777215) {
                return 37;
            }
            if (value > 65535) {
                return 36;
            }
            return value > 255 ? 35 : 34;
        }
    }

    /** Makes blocks of the lists that an end sends. */
    private static final class Encoder {
        final Table fields = new Table();
        private boolean limitTold = false;
        private int leastTold = 0;
        private int lastTold = 0;

        void hearLimit(int limit) {
            leastTold = limitTold ? Math.min(leastTold, limit) : limit;
            lastTold = limit;
            limitTold = true;
        }

        Block encode(FieldList list) {
            Block block = new Block(BLOCK_ROOM);
            if (limitTold) {
                if (leastTold < lastTold) {
                    encodeMaximum(block, leastTold);
                }
                encodeMaximum(block, lastTold);
                limitTold = false;
            }
            for (int k = 0; k < list.count; k++) {
                encodeField(block, list.names[k], list.values[k], list.secrets[k]);
            }
            return block;
        }

        private void encodeMaximum(Block block, int maximum) {
            block.add(MAXIMUM, maximum, 0, 0);
            fields.setMaximum(maximum);
        }

        private void encodeField(Block block, int name, int value, boolean secret) {
            if (secret) {
                block.add(SECRET, fields.leastNamed(name), name, value);
                return;
            }
            int equal = fields.leastEqual(name, value);
            if (equal != 0) {
                block.add(INDEXED, equal, 0, 0);
                return;
            }
            block.add(NEW, fields.leastNamed(name), name, value);
            fields.add(name, value);
        }
    }

    /** Makes lists of the blocks that an end gets. */
    private static final class Decoder {
        final Table fields = new Table();
        private boolean maximumDue = false;

        void limitInForce(int limit) {
            if (limit < fields.maximum) {
                maximumDue = true;
            }
        }

        /** The list, or null when a step is wrong; the steps before that are done all the same. */
        FieldList decode(Block block, int limit) {
            FieldList list = new FieldList();
            boolean maximumAllowed = true;
            for (int k = 0; k < block.count; k++) {
                if (block.kinds[k] == MAXIMUM) {
                    if (!maximumAllowed || block.numbers[k] > limit) {
                        return null;
                    }
                    fields.setMaximum(block.numbers[k]);
                } else {
                    if (k == 0 && maximumDue || !decodeField(block, k, list)) {
                        return null;
                    }
                    maximumAllowed = false;
                }
            }
            maximumDue = false;
            return list;
        }

        /** False when the step is wrong. */
        private boolean decodeField(Block block, int k, FieldList list) {
            int kind = block.kinds[k];
            int index = block.numbers[k];
            boolean namedByStep = index == 0 && kind != INDEXED;
            if (!namedByStep && !fields.hasIndex(index)) {
                return false;
            }
            int name = namedByStep ? block.names[k] : fields.nameOf(index);
            int value = kind == INDEXED ? fields.valueOf(index) : block.values[k];
            list.add(name, value, kind == SECRET);
            if (kind == NEW) {
                fields.add(name, value);
            }
            return true;
        }
    }

    /** The settings of one end, as far as they are told or in force. */
    private static final class Settings {
        static final int FIRST_TABLE_LIMIT = 100;

        int tableLimit = FIRST_TABLE_LIMIT;
        int mostStreams = 12;
        int firstWindow = 16;

        static boolean isKnown(int setting) {
            return setting == TABLE_LIMIT || setting == MOST_STREAMS || setting == FIRST_WINDOW;
        }

        /** True for every value of a setting that is not known, as nothing limits it. */
        static boolean isInRange(int setting, int value) {
            switch (setting) {
                case TABLE_LIMIT:
                    return isWithin(value, 0, 200);
                case MOST_STREAMS:
                    return isWithin(value, 0, 12);
                case FIRST_WINDOW:
                    return isWithin(value, 0, 64);
                default:
                    return true;
            }
        }
    }

    /** A stream as one end sees it. */
    private static final class Stream {
        final int number;
        int state = IDLE;
        boolean closedByCut = false;
        int sendWindow = 0;
        int receiveWindow = 0;
        boolean headersSent = false;
        boolean lastSaid = false;
        /** The list that came; null before any came. */
        FieldList list = null;
        final ByteQueue waiting = new ByteQueue(MOST_WAITING);
        // The window of the link never lets more bytes be unread.
        final ByteQueue unread = new ByteQueue(LINK_WINDOW);

        Stream(int number) {
            this.number = number;
        }

        boolean isActive() {
            return state == OPEN || state == HALF_LOCAL || state == HALF_REMOTE;
        }

        boolean maySend() {
            return state == OPEN || state == HALF_REMOTE;
        }

        boolean mayGet() {
            return state == OPEN || state == HALF_LOCAL;
        }

        void open(int firstSendWindow, int firstReceiveWindow) {
            state = OPEN;
            sendWindow = firstSendWindow;
            receiveWindow = firstReceiveWindow;
        }

        void endSent() {
            state = state == OPEN ? HALF_LOCAL : CLOSED;
        }

        void endGot() {
            state = state == OPEN ? HALF_REMOTE : CLOSED;
        }

        /** Answers how many unread bytes were dropped. */
        int cut() {
            state = CLOSED;
            closedByCut = true;
            waiting.dropAll();
            return unread.dropAll();
        }
    }

    /** One end of the link, with the pipe towards it and the pipe towards the other end. */
    private static final class End {
        private final boolean requests;
        final Pipe incoming;
        final Pipe outgoing;
        int down = 0;
        int sendWindow = LINK_WINDOW;
        int receiveWindow = LINK_WINDOW;
        final FieldList making = new FieldList();
        final Encoder encoder = new Encoder();
        final Decoder decoder = new Decoder();
        private final Stream[] streams = new Stream[STREAMS];
        /** What the other end told. */
        private final Settings told = new Settings();
        private final Settings inForce = new Settings();
        private final int[] pendingSettings = new int[PENDING_ROOM];
        private final int[] pendingValues = new int[PENDING_ROOM];
        int pendingCount = 0;
        private int nextToOpen = 1;
        /** The place in the row of the stream that sent DATA last; -1 when none did. */
        private int lastSender = -1;

        End(boolean requests, Pipe incoming, Pipe outgoing) {
            this.requests = requests;
            this.incoming = incoming;
            this.outgoing = outgoing;
            for (int k = 0; k < STREAMS; k++) {
                streams[k] = new Stream(2 * k + 1);
            }
        }

        /** Null when the number is that of no stream. */
        Stream streamOf(int number) {
            if (!isWithin(number, 1, TOP_STREAM) || number % 2 == 0) {
                return null;
            }
            return streams[number / 2];
        }

        private int activeCount() {
            int active = 0;
            for (int k = 0; k < STREAMS; k++) {
                if (streams[k].isActive()) {
                    active++;
                }
            }
            return active;
        }

        // What the end does of its own

        boolean mayOpen() {
            return nextToOpen <= TOP_STREAM && making.count > 0 && activeCount() < told.mostStreams;
        }

        /** Answers the number of the stream. */
        int openStream(boolean last) {
            Stream stream = streamOf(nextToOpen);
            if (stream == null) {
                return NONE;
            }
            nextToOpen += 2;
            stream.open(told.firstWindow, inForce.firstWindow);
            sendHeaders(stream, last);
            return stream.number;
        }

        void sendHeaders(Stream stream, boolean last) {
            outgoing.add(Frame.ofHeaders(stream.number, encoder.encode(making), last));
            making.count = 0;
            stream.headersSent = true;
            if (last) {
                stream.lastSaid = true;
                stream.endSent();
            }
        }

        /** Sends at most n DATA frames and answers how many. */
        int sendWaiting(int n) {
            int sent = 0;
            while (sent < n && !outgoing.isFull()) {
                int sender = nextSender();
                if (sender < 0) {
                    return sent;
                }
                lastSender = sender;
                sendData(streams[sender]);
                sent++;
            }
            return sent;
        }

        /** The place in the row of the stream whose turn it is; -1 when none can send. */
        private int nextSender() {
            for (int step = 1; step <= STREAMS; step++) {
                int place = (lastSender + step) % STREAMS;
                if (canSend(streams[place])) {
                    return place;
                }
            }
            return -1;
        }

        private boolean canSend(Stream stream) {
            if (!stream.maySend()) {
                return false;
            }
            if (stream.waiting.count == 0) {
                return stream.lastSaid;
            }
            return stream.sendWindow > 0 && sendWindow > 0;
        }

        private void sendData(Stream stream) {
            int most = Math.min(FRAME_BYTES, Math.min(stream.sendWindow, sendWindow));
            byte[] payload = stream.waiting.take(most);
            stream.sendWindow -= payload.length;
            sendWindow -= payload.length;
            boolean last = stream.lastSaid && stream.waiting.count == 0;
            outgoing.add(Frame.ofData(stream.number, payload, last));
            if (last) {
                stream.endSent();
            }
        }

        /** Answers the bytes, the first one lowest. */
        long takeUnread(Stream stream, int n) {
            byte[] bytes = stream.unread.take(n);
            giveBack(bytes.length);
            if (bytes.length > 0 && stream.mayGet()) {
                stream.receiveWindow += bytes.length;
                outgoing.add(Frame.ofWindow(stream.number, bytes.length));
            }
            long answer = 0;
            for (int k = bytes.length - 1; k >= 0; k--) {
                answer = answer << 8 | bytes[k] & 255;
            }
            return answer;
        }

        void sendSetting(int setting, int value) {
            if (pendingCount < PENDING_ROOM) {
                pendingSettings[pendingCount] = setting;
                pendingValues[pendingCount] = value;
                pendingCount++;
                outgoing.add(Frame.ofSetting(setting, value));
            }
        }

        /** Cuts the stream and gives back what was unread, and the bytes of a frame that was not taken. */
        int endWithReset(Stream stream, int code, int frameBytes) {
            outgoing.add(Frame.ofReset(stream.number, code));
            giveBack(stream.cut() + frameBytes);
            return code;
        }

        private void giveBack(int n) {
            if (n > 0) {
                receiveWindow += n;
                outgoing.add(Frame.ofWindow(0, n));
            }
        }

        private int linkError(int code) {
            outgoing.add(Frame.ofFarewell(code));
            down = OWN_ERROR + code;
            return down;
        }

        // What the end does when it gets a frame; the answers are those of deliver

        int getFrame(Frame frame) {
            switch (frame.kind) {
                case DATA:
                    return getData(frame);
                case HEADERS:
                    return getHeaders(frame);
                case RESET:
                    return getReset(frame);
                case SETTINGS:
                    return frame.flag ? getAck() : getSetting(frame.detail, frame.amount);
                case FAREWELL:
                    down = OTHERS_FAREWELL + frame.amount;
                    return 0;
                default:
                    return frame.stream == 0 ? getLinkWindow(frame.amount) : getStreamWindow(frame);
            }
        }

        private int getData(Frame frame) {
            Stream stream = streamOf(frame.stream);
            int n = frame.amount;
            if (stream == null || stream.state == IDLE) {
                return linkError(BAD_PROTOCOL);
            }
            if (n > receiveWindow) {
                return linkError(BAD_FLOW);
            }
            receiveWindow -= n;
            if (stream.state == CLOSED && stream.closedByCut) {
                giveBack(n);
                return 0;
            }
            if (!stream.mayGet()) {
                return endWithReset(stream, BAD_CLOSED, n);
            }
            if (stream.list == null) {
                return endWithReset(stream, BAD_PROTOCOL, n);
            }
            // Without bytes a frame is fine even where a new setting took the window below 0.
            if (n > 0 && n > stream.receiveWindow) {
                return endWithReset(stream, BAD_FLOW, n);
            }
            stream.receiveWindow -= n;
            stream.unread.add(frame.payload);
            if (frame.flag) {
                stream.endGot();
            }
            return 0;
        }

        private int getHeaders(Frame frame) {
            Stream stream = streamOf(frame.stream);
            if (stream == null || requests && stream.state == IDLE) {
                return linkError(BAD_PROTOCOL);
            }
            // Both tables must stay alike, so the block is got whatever becomes of the stream.
            FieldList list = decoder.decode(frame.block, inForce.tableLimit);
            if (list == null) {
                return linkError(BAD_BLOCK);
            }
            if (stream.state == IDLE) {
                return getRequest(stream, list, frame.flag);
            }
            if (stream.state == CLOSED) {
                return stream.closedByCut ? 0 : linkError(BAD_CLOSED);
            }
            if (stream.state == HALF_REMOTE) {
                return endWithReset(stream, BAD_CLOSED, 0);
            }
            if (stream.list != null) {
                return endWithReset(stream, BAD_PROTOCOL, 0);
            }
            takeList(stream, list, frame.flag);
            return 0;
        }

        private int getRequest(Stream stream, FieldList list, boolean last) {
            closeIdleBelow(stream.number);
            if (activeCount() >= inForce.mostStreams) {
                outgoing.add(Frame.ofReset(stream.number, REFUSED));
                stream.cut();
                return REFUSED;
            }
            stream.open(told.firstWindow, inForce.firstWindow);
            takeList(stream, list, last);
            return 0;
        }

        private void closeIdleBelow(int number) {
            for (int k = 0; k < STREAMS && streams[k].number < number; k++) {
                if (streams[k].state == IDLE) {
                    streams[k].state = CLOSED;
                }
            }
        }

        private void takeList(Stream stream, FieldList list, boolean last) {
            stream.list = list;
            if (last) {
                stream.endGot();
            }
        }

        private int getReset(Frame frame) {
            Stream stream = streamOf(frame.stream);
            if (stream == null || stream.state == IDLE) {
                return linkError(BAD_PROTOCOL);
            }
            if (stream.state != CLOSED) {
                giveBack(stream.cut());
            }
            return 0;
        }

        private int getAck() {
            if (pendingCount == 0) {
                return linkError(BAD_PROTOCOL);
            }
            int setting = pendingSettings[0];
            int value = pendingValues[0];
            pendingCount--;
            for (int k = 0; k < pendingCount; k++) {
                pendingSettings[k] = pendingSettings[k + 1];
                pendingValues[k] = pendingValues[k + 1];
            }
            putInForce(setting, value);
            return 0;
        }

        private void putInForce(int setting, int value) {
            switch (setting) {
                case TABLE_LIMIT:
                    decoder.limitInForce(value);
                    inForce.tableLimit = value;
                    break;
                case MOST_STREAMS:
                    inForce.mostStreams = value;
                    break;
                default:
                    moveReceiveWindows(value - inForce.firstWindow);
                    inForce.firstWindow = value;
                    break;
            }
        }

        private int getSetting(int setting, int value) {
            if (!Settings.isInRange(setting, value)) {
                return linkError(setting == FIRST_WINDOW ? BAD_FLOW : BAD_PROTOCOL);
            }
            hearSetting(setting, value);
            outgoing.add(Frame.ofAck());
            return 0;
        }

        private void hearSetting(int setting, int value) {
            switch (setting) {
                case TABLE_LIMIT:
                    encoder.hearLimit(value);
                    break;
                case MOST_STREAMS:
                    told.mostStreams = value;
                    break;
                case FIRST_WINDOW:
                    moveSendWindows(value - told.firstWindow);
                    told.firstWindow = value;
                    break;
                default:
                    break;
            }
        }

        private void moveSendWindows(int change) {
            for (int k = 0; k < STREAMS; k++) {
                if (streams[k].isActive()) {
                    streams[k].sendWindow += change;
                }
            }
        }

        private void moveReceiveWindows(int change) {
            for (int k = 0; k < STREAMS; k++) {
                if (streams[k].isActive()) {
                    streams[k].receiveWindow += change;
                }
            }
        }

        private int getLinkWindow(int increment) {
            if (increment < 1) {
                return linkError(BAD_PROTOCOL);
            }
            // Subtracted, as a sum could wrap.
            if (increment > TOP_SEND_WINDOW - sendWindow) {
                return linkError(BAD_FLOW);
            }
            sendWindow += increment;
            return 0;
        }

        private int getStreamWindow(Frame frame) {
            Stream stream = streamOf(frame.stream);
            int increment = frame.amount;
            if (stream == null || stream.state == IDLE) {
                return linkError(BAD_PROTOCOL);
            }
            if (stream.state == CLOSED) {
                return 0;
            }
            if (increment < 1) {
                return endWithReset(stream, BAD_PROTOCOL, 0);
            }
            if (increment > TOP_SEND_WINDOW - stream.sendWindow) {
                return endWithReset(stream, BAD_FLOW, 0);
            }
            stream.sendWindow += increment;
            return 0;
        }
    }
}
