/**
 * A LIN cluster, bit by bit: a master's schedule of headers, responses of whoever publishes them,
 * parity and two kinds of checksums, what listeners take, response errors that are told in status
 * frames, sleep and wake, bits that are disturbed.
 */
public final class LinCluster {

    /** There is none. */
    public static final int NONE = -1;

    private static final int NODES = 8;
    private static final int MASTER = 0;

    private static final int IDS = 62;
    private static final int FIRST_CLASSIC_ID = 60;
    private static final int SLEEP_ID = 60;
    private static final int ID_MASK = 63;
    private static final int BYTE_MASK = 255;
    private static final int MOST_BYTES = 8;

    private static final int CHARACTER_BITS = 10;
    private static final int SYNC = 85;
    private static final int HEADER_ZEROS = 13;
    private static final int SYNC_AT = HEADER_ZEROS + 1;
    private static final int PID_AT = SYNC_AT + CHARACTER_BITS;
    private static final int HEADER_BITS = PID_AT + CHARACTER_BITS;

    private static final int MOST_SLOTS = 16;
    private static final int LEAST_SLOT_BITS = 50;
    private static final int MOST_SLOT_BITS = 400;
    private static final int PAUSE_AFTER_WAKING = 50;

    private static final int BREAK_ZEROS = 11;
    private static final int WAKING_BITS = 8;
    private static final int WAKING_ZEROS = 5;
    private static final int SLEEP_ONES = 3000;
    private static final int MOST_SPACE = 8;
    private static final int RESPONSE_BITS_PER_CHARACTER = 14;

    private static final int MOST_BEHIND = 4000;
    private static final int MOST_DISTURBINGS = 200;
    private static final int MOST_RUN = 2000;
    private static final int MOST_TIME = 200000;
    private static final int MOST_BACK = 64;

    /** What a node is at, numbered as told() answers it. */
    private static final int ASLEEP = 0;
    private static final int WAITING = 1;
    private static final int IN_BREAK = 2;
    private static final int IN_HEADER = 3;
    private static final int SAYING = 4;
    private static final int TAKING = 5;

    private final Frame[] frames = new Frame[IDS];
    private final Node[] nodes = new Node[NODES];
    private final Schedule schedule = new Schedule();
    private final Disturbings disturbings = new Disturbings();

    private int time = 0;
    /** How many bits 0 came last: the same for every node, as none falls asleep or wakes at a 0. */
    private int zeros = 0;
    /** The line's last 64 bits, the newest lowest; before all it was 1. */
    private long past = -1L;

    public LinCluster() {
        for (int i = 0; i < nodes.length; i++) {
            nodes[i] = new Node(i);
        }
    }

    // ---- what there is

    public void frame(int id, int length, int publisher, boolean enhanced)
            throws IllegalArgumentException, IllegalStateException {
        if (id < 0 || id >= frames.length || length < 1 || length > MOST_BYTES || !isNode(publisher)) {
            throw new IllegalArgumentException("id, length or publisher is out of its bounds");
        }
        if (time > 0) {
            throw new IllegalStateException("frames are made in time 0 alone");
        }
        // A status that lay in the old frame is gone with it: a node knows its status's frame by the object.
        frames[id] = new Frame(id, length, publisher, enhanced && id < FIRST_CLASSIC_ID);
    }

    public boolean listen(int node, int id, boolean on) throws IllegalArgumentException {
        Frame frame = frameOf(id);
        if (!isNode(node) || frame == null || frame.publisher == node) {
            throw new IllegalArgumentException("no such node or frame, or the node publishes it");
        }
        boolean did = frame.isHeardBy(node);
        if (on) {
            frame.beginHearing(node);
        } else {
            frame.endHearing(node);
        }
        return did;
    }

    public void status(int node, int id, int byteNumber, int bit) throws IllegalArgumentException {
        Frame frame = frameOf(id);
        if (!isNode(node) || frame == null || frame.publisher != node || !frame.hasByte(byteNumber)
                || bit < 0 || bit > 7) {
            throw new IllegalArgumentException("no such node, frame, byte or bit, or another node publishes it");
        }
        nodes[node].putStatus(frame, byteNumber, bit);
    }

    public int space(int node, int bits) throws IllegalArgumentException {
        if (!isNode(node) || bits < 0 || bits > MOST_SPACE) {
            throw new IllegalArgumentException("node or bits is out of its bounds");
        }
        return nodes[node].changeSpace(bits);
    }

    public int slot(int id, int bits) throws IllegalArgumentException, IllegalStateException {
        if (frameOf(id) == null || bits < LEAST_SLOT_BITS || bits > MOST_SLOT_BITS) {
            throw new IllegalArgumentException("no such frame, or bits is out of its bounds");
        }
        if (time > 0 || schedule.isFull()) {
            throw new IllegalStateException("slots are made in time 0 alone, and there are 16 at most");
        }
        return schedule.addSlot(id, bits);
    }

    // ---- what happens

    public int write(int id, int i, int v) throws IllegalArgumentException {
        Frame frame = frameOf(id);
        if (frame == null || !frame.hasByte(i) || v < 0 || v > BYTE_MASK) {
            throw new IllegalArgumentException("no such frame or byte, or v is out of its bounds");
        }
        return frame.changeByte(i, v);
    }

    public void disturb(int behind, int bit) throws IllegalArgumentException, IllegalStateException {
        if (behind < 0 || behind > MOST_BEHIND || bit < 0 || bit > 1) {
            throw new IllegalArgumentException("behind or bit is out of its bounds");
        }
        if (disturbings.toCome >= MOST_DISTURBINGS) {
            throw new IllegalStateException("200 disturbings are to come");
        }
        disturbings.put(time + behind, bit);
    }

    public void wake(int node) throws IllegalArgumentException {
        if (!isNode(node)) {
            throw new IllegalArgumentException("no such node");
        }
        nodes[node].beginWaking();
    }

    public int run(int n) throws IllegalArgumentException, IllegalStateException {
        if (n < 1 || n > MOST_RUN) {
            throw new IllegalArgumentException("n is out of its bounds");
        }
        if (time + n > MOST_TIME) {
            throw new IllegalStateException("the time would be above 200000");
        }
        for (int i = 0; i < n; i++) {
            passBitTime();
        }
        return time;
    }

    // ---- what is told

    public int byteAt(int node, int id, int i) throws IllegalArgumentException {
        Frame frame = frameOf(id);
        if (!isNode(node) || frame == null || !frame.isKnownTo(node) || !frame.hasByte(i)) {
            throw new IllegalArgumentException("no such node, frame or byte, or the node has nothing of it");
        }
        return byteOf(frame.bytesAt(node), i);
    }

    public int taken(int node, int id) throws IllegalArgumentException {
        Frame frame = frameOf(id);
        if (!isNode(node) || frame == null || !frame.isKnownTo(node)) {
            throw new IllegalArgumentException("no such node or frame, or the node has nothing of it");
        }
        return frame.takingsAt(node);
    }

    public int told(int node, int what) throws IllegalArgumentException {
        if (!isNode(node) || what < 0 || what > 6) {
            throw new IllegalArgumentException("node or what is out of its bounds");
        }
        return nodes[node].tell(what);
    }

    public int count(int what) throws IllegalArgumentException {
        switch (what) {
            case 0:
                return time;
            case 1:
                return schedule.atHand;
            case 2:
                return schedule.begun;
            case 3:
                return disturbings.toCome;
            default:
                throw new IllegalArgumentException("what is out of its bounds");
        }
    }

    public int line(int back) throws IllegalArgumentException {
        if (back < 1 || back > MOST_BACK) {
            throw new IllegalArgumentException("back is out of its bounds");
        }
        return (int) (past >>> (back - 1)) & 1;
    }

    public int checks(int id) throws IllegalArgumentException {
        Frame frame = frameOf(id);
        if (frame == null) {
            throw new IllegalArgumentException("no such frame");
        }
        return frame.pid + 256 * frame.checksumOf(frame.bytes);
    }

    // ---- within

    private static boolean isNode(int node) {
        return node >= 0 && node < NODES;
    }

    private Frame frameOf(int id) {
        return id >= 0 && id < frames.length ? frames[id] : null;
    }

    private void passBitTime() {
        int bit = schedule.nextBit();
        for (int i = 0; i < nodes.length; i++) {
            bit = Math.min(bit, nodes[i].bitToSay());
        }
        bit = disturbings.pass(time, bit);
        boolean masterWasAwake = nodes[MASTER].isAwake();
        for (int i = 0; i < nodes.length; i++) {
            nodes[i].look(bit, zeros, frames);
        }
        if (masterWasAwake != nodes[MASTER].isAwake()) {
            schedule.followMaster(!masterWasAwake);
        }
        zeros = bit == 0 ? zeros + 1 : 0;
        past = past << 1 | bit;
        time++;
    }

    private static int pidOf(int id) {
        int p = (id ^ id >> 1 ^ id >> 2 ^ id >> 4) & 1;
        int q = (id >> 1 ^ id >> 3 ^ id >> 4 ^ id >> 5 ^ 1) & 1;
        return id + 64 * p + 128 * q;
    }

    /** The ID whose PID this character is, else NONE: 62 and 63 are no IDs, so right parity alone is not enough. */
    private static int idOf(int character) {
        int id = character & ID_MASK;
        return id < IDS && character == pidOf(id) ? id : NONE;
    }

    /** Byte i (0 .. 7) of eight that are kept in one long, byte 0 lowest. */
    private static int byteOf(long bytes, int i) {
        return (int) (bytes >>> 8 * i) & BYTE_MASK;
    }

    /** The bit of a character's value at a position 0 .. 9. */
    private static int characterBit(int value, int position) {
        if (position == 0) {
            return 0;
        }
        return position == CHARACTER_BITS - 1 ? 1 : value >> (position - 1) & 1;
    }

    /** A frame with its bytes at its publisher, and what its listeners keep of it. */
    private static final class Frame {
        final int id;
        final int length;
        final int publisher;
        final int pid;
        private final boolean enhanced;
        long bytes = 0;
        /** Bit n: whether node n listens. */
        private int listeners = 0;
        private final long[] kept = new long[NODES];
        private final int[] takings = new int[NODES];

        Frame(int id, int length, int publisher, boolean enhanced) {
            this.id = id;
            this.length = length;
            this.publisher = publisher;
            this.enhanced = enhanced;
            this.pid = pidOf(id);
        }

        boolean hasByte(int i) {
            return i >= 0 && i < length;
        }

        int changeByte(int i, int v) {
            int before = byteOf(bytes, i);
            bytes ^= (long) (before ^ v) << 8 * i;
            return before;
        }

        int checksumOf(long data) {
            int sum = enhanced ? pid : 0;
            long left = data;
            for (int i = 0; i < length; i++) {
                sum += (int) (left & BYTE_MASK);
                if (sum > 255) {
                    sum -= 255;
                }
                left >>>= 8;
            }
            return 255 - sum;
        }

        boolean isHeardBy(int node) {
            return (listeners >> node & 1) == 1;
        }

        boolean isKnownTo(int node) {
            return node == publisher || isHeardBy(node);
        }

        void beginHearing(int node) {
            if (isNode(node) && !isHeardBy(node)) {
                listeners |= 1 << node;
                kept[node] = 0;
                takings[node] = 0;
            }
        }

        void endHearing(int node) {
            listeners &= ~(1 << node);
        }

        /** A node that ended its listening while it took the frame keeps nothing. */
        void keep(int node, long data) {
            if (isNode(node) && isHeardBy(node)) {
                kept[node] = data;
                takings[node]++;
            }
        }

        long bytesAt(int node) {
            return isNode(node) && node != publisher ? kept[node] : bytes;
        }

        int takingsAt(int node) {
            return isNode(node) ? takings[node] : 0;
        }
    }

    /** The master's slots, and how far it is in them. */
    private static final class Schedule {
        private final int[] ids = new int[MOST_SLOTS];
        private final int[] lengths = new int[MOST_SLOTS];
        private int slots = 0;
        /** The slot at hand stays until the next one says its first bit. */
        int atHand = NONE;
        int begun = 0;
        private int bitsSaid = 0;
        private int bitsOfSlot = 0;
        private int pid = 0;
        private int pause = 0;
        private boolean stopped = false;

        boolean isFull() {
            return slots >= MOST_SLOTS;
        }

        int addSlot(int id, int bits) {
            int number = slots;
            if (number < MOST_SLOTS) {
                ids[number] = id;
                lengths[number] = bits;
                slots++;
            }
            return number;
        }

        /** What the master says of its header in the bit time that begins. */
        int nextBit() {
            if (stopped || slots == 0) {
                return 1;
            }
            if (pause > 0) {
                pause--;
                return 1;
            }
            if (atHand == NONE || bitsSaid >= bitsOfSlot) {
                begin(atHand + 1 < slots ? atHand + 1 : 0);
            }
            int bit = headerBit(bitsSaid);
            bitsSaid++;
            return bit;
        }

        private void begin(int number) {
            if (number < 0 || number >= MOST_SLOTS) {
                return;
            }
            atHand = number;
            begun++;
            bitsSaid = 0;
            bitsOfSlot = lengths[number];
            pid = pidOf(ids[number]);
        }

        private int headerBit(int position) {
            if (position < HEADER_ZEROS) {
                return 0;
            }
            if (position < SYNC_AT || position >= HEADER_BITS) {
                return 1;
            }
            return position < PID_AT
                    ? characterBit(SYNC, position - SYNC_AT)
                    : characterBit(pid, position - PID_AT);
        }

        /** The master fell asleep, or is awake again. */
        void followMaster(boolean awake) {
            stopped = !awake;
            atHand = NONE;
            pause = PAUSE_AFTER_WAKING;
        }
    }

    /** The disturbings that are to come; 4096 bit times in a ring are more than they may lie ahead. */
    private static final class Disturbings {
        private static final int ROWS = 64;
        private final long[] marked = new long[ROWS];
        private final long[] values = new long[ROWS];
        int toCome = 0;

        void put(int when, int bit) {
            int row = rowOf(when);
            long mark = 1L << (when & 63);
            if ((marked[row] & mark) == 0) {
                marked[row] |= mark;
                toCome++;
            }
            values[row] = bit == 1 ? values[row] | mark : values[row] & ~mark;
        }

        /** The line in a bit time in which the nodes say this bit; a disturbing there is over then. */
        int pass(int when, int said) {
            int row = rowOf(when);
            long mark = 1L << (when & 63);
            if ((marked[row] & mark) == 0) {
                return said;
            }
            marked[row] &= ~mark;
            toCome--;
            return (values[row] & mark) == 0 ? 0 : 1;
        }

        private static int rowOf(int when) {
            return when >> 6 & ROWS - 1;
        }
    }

    /** A character as it comes, bit by bit. */
    private static final class Incoming {
        static final int UNDER_WAY = -1;
        static final int BROKEN = -2;
        private int bits = 0;
        private int value = 0;

        void clear() {
            bits = 0;
        }

        /** The character's value if this bit is its last, BROKEN if that one is 0, else UNDER_WAY. */
        int add(int bit) {
            if (bits == 0) {
                value = 0;
                bits = bit == 0 ? 1 : 0;
                return UNDER_WAY;
            }
            if (bits < CHARACTER_BITS - 1) {
                value |= bit << (bits - 1);
                bits++;
                return UNDER_WAY;
            }
            bits = 0;
            return bit == 1 ? value : BROKEN;
        }
    }

    /** The response that a node says or takes. */
    private static final class Response {
        Frame frame = null;
        long bytes = 0;
        /** How many bit times have passed behind the last bit of the PID. */
        int passed = 0;
        private int characters = 0;
        private int checksum = 0;
        private int pause = 0;
        private int charactersTaken = 0;

        void beginSaying(Frame of, long data, int space) {
            begin(of, data);
            checksum = of.checksumOf(data);
            pause = space;
        }

        void beginTaking(Frame of) {
            begin(of, 0);
            charactersTaken = 0;
        }

        private void begin(Frame of, long data) {
            frame = of;
            characters = of.length + 1;
            bytes = data;
            passed = 0;
        }

        int bitToSay() {
            int position = passed - pause;
            if (position < 0) {
                return 1;
            }
            int number = position / CHARACTER_BITS;
            int value = number < characters - 1 ? byteOf(bytes, number) : checksum;
            return characterBit(value, position % CHARACTER_BITS);
        }

        boolean isSaid() {
            return passed >= pause + CHARACTER_BITS * characters;
        }

        void addCharacter(int value) {
            if (charactersTaken < characters - 1) {
                bytes |= (long) value << 8 * charactersTaken;
            } else {
                checksum = value;
            }
            charactersTaken++;
        }

        boolean isTaken() {
            return charactersTaken >= characters;
        }

        boolean isRight() {
            return frame != null && checksum == frame.checksumOf(bytes);
        }

        boolean isLate() {
            return passed >= RESPONSE_BITS_PER_CHARACTER * characters;
        }

        boolean sendsToSleep() {
            return frame != null && frame.id == SLEEP_ID && (bytes & BYTE_MASK) == 0;
        }
    }

    /** A node: how it is made, and what it is at. */
    private static final class Node {
        private final int number;
        private final Incoming incoming = new Incoming();
        private final Response response = new Response();
        private int space = 0;
        private Frame statusFrame = null;
        private int statusPlace = 0;
        private int at = WAITING;
        private boolean synced = false;
        private int ones = 0;
        private int wakingBits = 0;
        private boolean error = false;
        private int headersLost = 0;
        private int responsesSaid = 0;
        private int responsesTaken = 0;
        private int errors = 0;

        Node(int number) {
            this.number = number;
        }

        void putStatus(Frame frame, int byteNumber, int bit) {
            statusFrame = frame;
            statusPlace = 8 * byteNumber + bit;
        }

        int changeSpace(int bits) {
            int before = space;
            space = bits;
            return before;
        }

        void beginWaking() {
            wakingBits = WAKING_BITS;
        }

        boolean isAwake() {
            return at != ASLEEP;
        }

        int tell(int what) {
            switch (what) {
                case 0:
                    return isAwake() ? 1 : 0;
                case 1:
                    return error ? 1 : 0;
                case 2:
                    return headersLost;
                case 3:
                    return responsesSaid;
                case 4:
                    return responsesTaken;
                case 5:
                    return errors;
                default:
                    return at;
            }
        }

        /** 1 where the node says nothing: on the line that is the same. */
        int bitToSay() {
            if (wakingBits > 0) {
                return 0;
            }
            return at == SAYING ? response.bitToSay() : 1;
        }

        void look(int bit, int zerosBefore, Frame[] frames) {
            if (wakingBits > 0) {
                wakingBits--;
            }
            if (at == ASLEEP) {
                lookAsleep(bit, zerosBefore);
                return;
            }
            ones = bit == 1 ? ones + 1 : 0;
            if (ones >= SLEEP_ONES) {
                at = ASLEEP;
            } else if (bit == 0 && zerosBefore + 1 == BREAK_ZEROS) {
                meetBreak();
            } else if (at == IN_BREAK && bit == 1) {
                beginHeader();
            } else if (at == IN_HEADER) {
                lookInHeader(bit, frames);
            } else if (at == SAYING) {
                compare(bit);
            } else if (at == TAKING) {
                take(bit);
            }
        }

        private void lookAsleep(int bit, int zerosBefore) {
            if (bit == 1 && zerosBefore >= WAKING_ZEROS) {
                at = WAITING;
                // The bit that wakes it came while it was asleep, so it does not count here.
                ones = 0;
            }
        }

        private void meetBreak() {
            if (at == TAKING) {
                fail();
            }
            at = IN_BREAK;
        }

        private void beginHeader() {
            at = IN_HEADER;
            synced = false;
            incoming.clear();
        }

        private void lookInHeader(int bit, Frame[] frames) {
            int value = incoming.add(bit);
            if (value == Incoming.UNDER_WAY) {
                return;
            }
            if (!synced && value == SYNC) {
                synced = true;
                return;
            }
            int id = synced ? idOf(value) : NONE;
            if (id < 0 || id >= frames.length) {
                headersLost++;
                at = WAITING;
                return;
            }
            answer(frames[id]);
        }

        private void answer(Frame frame) {
            if (frame == null) {
                at = WAITING;
            } else if (frame.publisher == number) {
                response.beginSaying(frame, bytesToSay(frame), space);
                at = SAYING;
            } else if (frame.isHeardBy(number)) {
                response.beginTaking(frame);
                at = TAKING;
            } else {
                at = WAITING;
            }
        }

        private long bytesToSay(Frame frame) {
            if (frame != statusFrame) {
                return frame.bytes;
            }
            long mark = 1L << statusPlace;
            return error ? frame.bytes | mark : frame.bytes & ~mark;
        }

        private void compare(int bit) {
            if (bit != response.bitToSay()) {
                fail();
                at = WAITING;
                return;
            }
            response.passed++;
            if (response.isSaid()) {
                finishSaying();
            }
        }

        private void finishSaying() {
            responsesSaid++;
            if (response.frame == statusFrame) {
                error = false;
            }
            rest();
        }

        private void take(int bit) {
            response.passed++;
            int value = incoming.add(bit);
            if (value >= 0) {
                response.addCharacter(value);
            }
            if (response.isTaken() && response.isRight()) {
                finishTaking();
            } else if (value == Incoming.BROKEN || response.isTaken() || response.isLate()) {
                fail();
                at = WAITING;
            }
        }

        private void finishTaking() {
            responsesTaken++;
            if (response.frame != null) {
                response.frame.keep(number, response.bytes);
            }
            rest();
        }

        /** Behind a response that came wholly. */
        private void rest() {
            at = response.sendsToSleep() ? ASLEEP : WAITING;
        }

        private void fail() {
            error = true;
            errors++;
        }
    }
}
