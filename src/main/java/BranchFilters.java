/** A chain of four branch filters; the document DOC.md tells what each call answers. */
public final class BranchFilters {
    public static final int NONE = -1;

    private static final int FILTERS = 4;
    private static final int KINDS = 8;
    private static final int DISTANCES = 32;
    private static final int PIECE = 16;
    private static final int LIMIT = 2000;
    private static final int WORD = 4;

    // A piece and what four filters hold (seven bytes at most each) are 44 bytes: a row never fills.
    private static final int ROOM = 64;

    private final Filter[] chain;
    private final Row moving;
    private final Row result;
    private int start;
    private boolean encoding;
    private boolean finished;
    private int came;

    public BranchFilters() {
        chain = new Filter[FILTERS];
        for (int i = 0; i < FILTERS; i++) {
            chain[i] = new Filter();
        }
        moving = new Row(ROOM);
        result = new Row(LIMIT);
        encoding = true;
    }

    public void filter(int filter, int kind, int distance) throws IllegalArgumentException {
        if (filter < 0 || filter >= FILTERS) {
            throw new IllegalArgumentException("no such filter");
        }
        if (kind < 0 || kind >= KINDS) {
            throw new IllegalArgumentException("no such kind");
        }
        if (distance < 1 || distance > DISTANCES) {
            throw new IllegalArgumentException("no such distance");
        }
        chain[filter].become(kind, distance);
        beginAnew();
    }

    public void begin(int start, boolean encoding) {
        this.start = start;
        this.encoding = encoding;
        beginAnew();
    }

    public int feed(int many, int a, int b, int c, int d)
            throws IllegalArgumentException, IllegalStateException {
        if (many < 0 || many > PIECE) {
            throw new IllegalArgumentException("not 0 to 16 bytes");
        }
        if (finished) {
            throw new IllegalStateException("finished");
        }
        if (came + many > LIMIT) {
            throw new IllegalStateException("too many bytes");
        }
        came += many;
        for (int i = 0; i < many; i++) {
            int number = i < 4 ? a : i < 8 ? b : i < 12 ? c : d;
            moving.add(number >>> (24 - 8 * (i % 4)));
        }
        sendThroughChain(false);
        return result.size();
    }

    public int finish() throws IllegalStateException {
        if (finished) {
            throw new IllegalStateException("finished");
        }
        finished = true;
        sendThroughChain(true);
        return result.size();
    }

    public int output(int k) {
        return k < 0 || k >= result.size() ? NONE : result.at(k);
    }

    public int count(int filter, int what) throws IllegalArgumentException {
        if (filter < 0 || filter >= FILTERS) {
            throw new IllegalArgumentException("no such filter");
        }
        Filter asked = chain[filter];
        switch (what) {
            case 0: return asked.kind;
            case 1: return asked.distance;
            case 2: return asked.held.size();
            case 3: return asked.given;
            case 4: return asked.replaced;
            case 5: return asked.mask;
            default: throw new IllegalArgumentException("no such count");
        }
    }

    public int word(int k) throws IndexOutOfBoundsException {
        // Not k + WORD > size: that would go round for the highest k.
        if (k < 0 || k > result.size() - WORD) {
            throw new IndexOutOfBoundsException("not all four bytes are there");
        }
        return result.lowestFirst(k);
    }

    private void beginAnew() {
        result.clear();
        finished = false;
        came = 0;
        for (int i = 0; i < FILTERS; i++) {
            chain[i].restart(start, encoding);
        }
    }

    private void sendThroughChain(boolean last) {
        for (int i = 0; i < FILTERS; i++) {
            Filter next = chain[encoding ? i : FILTERS - 1 - i];
            next.pass(moving);
            if (last) {
                next.giveRest(moving);
            }
        }
        moving.moveTo(result, moving.size());
    }

    /** Bytes 0 .. 255 in a row that is made once and used again. */
    private static final class Row {
        private final int[] bytes;
        private int size;

        Row(int room) {
            bytes = new int[room];
        }

        int size() {
            return size;
        }

        int at(int k) {
            return bytes[k];
        }

        void set(int k, int value) {
            bytes[k] = value & 0xFF;
        }

        void add(int value) {
            bytes[size] = value & 0xFF;
            size++;
        }

        void clear() {
            size = 0;
        }

        int lowestFirst(int k) {
            return bytes[k] | bytes[k + 1] << 8 | bytes[k + 2] << 16 | bytes[k + 3] << 24;
        }

        void setLowestFirst(int k, int number) {
            bytes[k] = number & 0xFF;
            bytes[k + 1] = number >>> 8 & 0xFF;
            bytes[k + 2] = number >>> 16 & 0xFF;
            bytes[k + 3] = number >>> 24;
        }

        int highestFirst(int k) {
            return bytes[k] << 24 | bytes[k + 1] << 16 | bytes[k + 2] << 8 | bytes[k + 3];
        }

        void setHighestFirst(int k, int number) {
            bytes[k] = number >>> 24;
            bytes[k + 1] = number >>> 16 & 0xFF;
            bytes[k + 2] = number >>> 8 & 0xFF;
            bytes[k + 3] = number & 0xFF;
        }

        /** The first bytes go behind those of the other row, the rest comes to the front. */
        void moveTo(Row other, int many) {
            System.arraycopy(bytes, 0, other.bytes, other.size, many);
            other.size += many;
            size -= many;
            System.arraycopy(bytes, many, bytes, 0, size);
        }
    }

    /** One of the four: its kind, what it holds, and how far it has come. */
    private static final class Filter {
        private static final int DELTA = 1;
        private static final int X86 = 2;
        private static final int ARM = 3;
        private static final int THUMB = 4;
        private static final int POWER = 5;
        private static final int SPARC = 6;
        private static final int RISC = 7;

        // How many bytes each kind wants to see before it gives any.
        private static final int[] NEEDED = {1, 1, 5, 4, 4, 4, 4, 8};

        // The bits of a POWER branch that are its number.
        private static final int POWER_NUMBER = 0x03FFFFFC;

        private static final int X86_LENGTH = 5;

        // One turn is the most in any run: the MASK lets a number through only if the byte looked at
        // was neither 0 nor FFh as it came in, and a turn gives just that byte turned round.
        private static final int X86_TURNS = 1000;

        private final Row held;
        private final int[] past;
        private int kind;
        private int distance;
        private boolean encoding;
        private int place;
        private int here;
        private int given;
        private int replaced;
        private int mask;
        private int last;

        Filter() {
            held = new Row(ROOM);
            past = new int[DISTANCES];
            distance = 1;
            restart(0, true);
        }

        void become(int newKind, int newDistance) {
            kind = newKind;
            distance = newDistance;
        }

        void restart(int start, boolean toEncode) {
            held.clear();
            for (int i = 0; i < DISTANCES; i++) {
                past[i] = 0;
            }
            encoding = toEncode;
            place = start;
            given = 0;
            replaced = 0;
            mask = 0;
            last = start - X86_LENGTH;
        }

        /** Takes in all bytes of the row and leaves there those that it can give. */
        void pass(Row row) {
            row.moveTo(held, row.size());
            here = 0;
            int end = held.size() - NEEDED[kind];
            // Each step goes on by a byte or more, so there are never more steps than bytes.
            for (int steps = 0; steps < ROOM && here <= end; steps++) {
                int many = step();
                here += many;
                place += many;
            }
            given += here;
            held.moveTo(row, here);
        }

        /** Puts what it still holds behind the bytes of the row, as it is. */
        void giveRest(Row row) {
            int many = held.size();
            place += many;
            given += many;
            held.moveTo(row, many);
        }

        /** Changes the bytes from here on as its kind asks: how many of them it gives. */
        private int step() {
            switch (kind) {
                case DELTA: return stepDelta();
                case X86: return stepX86();
                case ARM: return stepArm();
                case THUMB: return stepThumb();
                case POWER: return stepPower();
                case SPARC: return stepSparc();
                case RISC: return stepRisc();
                default: return 1;
            }
        }

        private int moved(int number, int by) {
            return encoding ? number + by : number - by;
        }

        private int stepDelta() {
            // With a distance of 32 both places are one: it is read before it is written.
            int now = place & (DISTANCES - 1);
            int before = past[(place - distance) & (DISTANCES - 1)];
            int came = held.at(here);
            held.set(here, moved(came, -before));
            past[now] = encoding ? came : held.at(here);
            return 1;
        }

        private int stepArm() {
            int w = held.lowestFirst(here);
            if (w >>> 24 == 0xEB) {
                int n = w & 0xFFFFFF;
                int target = moved(4 * n, place + 8) >>> 2;
                held.setLowestFirst(here, 0xEB000000 | target & 0xFFFFFF);
                replaced++;
            }
            return 4;
        }

        private int stepThumb() {
            int b0 = held.at(here);
            int b1 = held.at(here + 1);
            int b2 = held.at(here + 2);
            int b3 = held.at(here + 3);
            if (b1 >>> 3 != 0x1E || b3 >>> 3 != 0x1F) {
                return 2;
            }
            int n = (b1 & 7) << 19 | b0 << 11 | (b3 & 7) << 8 | b2;
            int target = moved(2 * n, place + 4) >>> 1;
            held.set(here, target >>> 11);
            held.set(here + 1, 0xF0 | target >>> 19 & 7);
            held.set(here + 2, target);
            held.set(here + 3, 0xF8 | target >>> 8 & 7);
            replaced++;
            return 4;
        }

        private int stepPower() {
            int w = held.highestFirst(here);
            if (w >>> 26 == 0x12 && (w & 3) == 1) {
                int target = moved(w & POWER_NUMBER, place);
                held.setHighestFirst(here, w & ~POWER_NUMBER | target & POWER_NUMBER);
                replaced++;
            }
            return 4;
        }

        private int stepSparc() {
            int w = held.highestFirst(here);
            int top = w >>> 22;
            if (top == 0x100 || top == 0x1FF) {
                int target = moved(4 * w, place) >>> 2;
                int sign = (target >>> 22 & 1) == 1 ? 0x3FC00000 : 0;
                held.setHighestFirst(here, 0x40000000 | sign | target & 0x3FFFFF);
                replaced++;
            }
            return 4;
        }

        private int stepRisc() {
            int w = held.lowestFirst(here);
            int code = w & 0x7F;
            int r = w >>> 7 & 0x1F;
            if (code == 0x6F && (r == 1 || r == 5)) {
                replaceRiscJump(w);
                return 4;
            }
            if (code == 0x17 && r != 0) {
                replaceRiscPair(w, held.lowestFirst(here + 4), r);
                return 8;
            }
            return 2;
        }

        private void replaceRiscJump(int w) {
            int n = (w >>> 31) << 20 | w & 0xFF000 | (w >>> 20 & 1) << 11 | (w >>> 21 & 0x3FF) << 1;
            int target = moved(n, place);
            int bits = (target >>> 20 & 1) << 31 | (target >>> 1 & 0x3FF) << 21
                    | (target >>> 11 & 1) << 20 | target & 0xFF000;
            held.setLowestFirst(here, w & 0xFFF | bits);
            replaced++;
        }

        private void replaceRiscPair(int w, int v, int r) {
            int code = v & 0x7F;
            if ((v >>> 15 & 0x1F) != r || code != 0x67 && code != 0x03) {
                return;
            }
            int target = moved((w & 0xFFFFF000) + (v >> 20), place);
            // v's part is read with its sign: w takes one more where that sign takes one away.
            int upper = (target + 0x800) & 0xFFFFF000;
            held.setLowestFirst(here, w & 0xFFF | upper);
            held.setLowestFirst(here + 4, v & 0xFFFFF | target << 20);
            replaced++;
        }

        private int stepX86() {
            int b0 = held.at(here);
            if (b0 != 0xE8 && b0 != 0xE9) {
                return 1;
            }
            ageMask();
            boolean signed = isSignByte(held.at(here + 4));
            if (signed && maskAllows()) {
                int target = x86Target(held.lowestFirst(here + 1), place + X86_LENGTH);
                // Bit 24 fills all bits above it, so that b4 is 0 or FFh again.
                held.setLowestFirst(here + 1, target << 7 >> 7);
                mask = 0;
                replaced++;
                return X86_LENGTH;
            }
            mask |= signed ? 17 : 1;
            return 1;
        }

        private void ageMask() {
            int d = place - last;
            last = place;
            if (d < 0 || d > X86_LENGTH) {
                mask = 0;
                return;
            }
            for (int i = 0; i < d; i++) {
                mask = (mask & 0x77) * 2;
            }
        }

        private boolean maskAllows() {
            int half = mask / 2;
            int low = half % 8;
            return half < 16 && (low <= 2 || low == 4);
        }

        private int x86Target(int n, int m) {
            int target = moved(n, m);
            if (mask == 0) {
                return target;
            }
            int half = mask / 2;
            int kept = half < 2 ? 1 : half < 4 ? 2 : 3;
            int below = 32 - 8 * kept;
            int turned = (1 << below) - 1;
            for (int turns = 0; turns < X86_TURNS; turns++) {
                if (!isSignByte((target >>> (below - 8)) & 0xFF)) {
                    break;
                }
                target = moved(target ^ turned, m);
            }
            return target;
        }

        private static boolean isSignByte(int value) {
            return value == 0 || value == 0xFF;
        }
    }
}
