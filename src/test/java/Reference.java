import java.util.ArrayList;
import java.util.Collections;
import java.util.List;

/**
 * The document's words once more, over a whole list of bytes and with long numbers, so that the class
 * can be held against it: it knows nothing of pieces, rows or places that are kept between calls.
 */
final class Reference {
    private static final long ROUND = 1L << 32;
    private static final int[] NEEDED = {1, 1, 5, 4, 4, 4, 4, 8};

    private final int kind;
    private final int distance;
    private final long start;
    private final boolean encoding;
    private final List<Integer> bytes;
    private int at;
    int given;
    int replaced;
    int mask;
    private long last;

    private Reference(int kind, int distance, int start, boolean encoding, List<Integer> bytes, boolean finish) {
        this.kind = kind;
        this.distance = distance;
        this.start = round(start);
        this.encoding = encoding;
        this.bytes = new ArrayList<>(bytes);
        last = round(start - 5L);
        if (kind == 1) {
            delta(bytes);
        }
        while (at + NEEDED[kind] <= bytes.size()) {
            at += step();
        }
        given = finish ? bytes.size() : at;
    }

    /** The output for all bytes so far, and into counts what each filter counts, as Check.counts writes it. */
    static List<Integer> run(int[] kinds, int[] distances, int start, boolean encoding,
            List<Integer> in, boolean finish, String[] counts) {
        List<Integer> order = new ArrayList<>(List.of(0, 1, 2, 3));
        if (!encoding) {
            Collections.reverse(order);
        }
        List<Integer> now = in;
        for (int f : order) {
            Reference r = new Reference(kinds[f], distances[f], start, encoding, now, finish);
            counts[f] = kinds[f] + " " + distances[f] + " " + (now.size() - r.given) + " " + r.given + " "
                    + r.replaced + " " + r.mask;
            now = r.bytes.subList(0, r.given);
        }
        return now;
    }

    private static long round(long number) {
        return Math.floorMod(number, ROUND);
    }

    private long place() {
        return round(start + at);
    }

    private long moved(long number, long by) {
        return round(encoding ? number + by : number - by);
    }

    private int b(int i) {
        return bytes.get(at + i);
    }

    private void put(int i, long value) {
        bytes.set(at + i, (int) (value & 255));
    }

    private static long bits(long number, int high, int low) {
        return (number >> low) % (1L << (high - low + 1));
    }

    private void delta(List<Integer> came) {
        for (int i = distance; i < came.size(); i++) {
            int before = encoding ? came.get(i - distance) : bytes.get(i - distance);
            bytes.set(i, Math.floorMod(encoding ? came.get(i) - before : came.get(i) + before, 256));
        }
    }

    private int step() {
        switch (kind) {
            case 2: return x86();
            case 3: return arm();
            case 4: return thumb();
            case 5: return power();
            case 6: return sparc();
            case 7: return risc();
            default: return 1;
        }
    }

    private int arm() {
        if (b(3) == 0xEB) {
            long t = moved(4 * (b(0) + 256L * b(1) + 65536L * b(2)), place() + 8);
            put(0, bits(t, 9, 2));
            put(1, bits(t, 17, 10));
            put(2, bits(t, 25, 18));
            replaced++;
        }
        return 4;
    }

    private int thumb() {
        if (b(1) / 8 != 30 || b(3) / 8 != 31) {
            return 2;
        }
        long n = ((b(1) % 8 * 256L + b(0)) * 8 + b(3) % 8) * 256 + b(2);
        long t = moved(2 * n, place() + 4) / 2;
        put(1, 0xF0 + bits(t, 21, 19));
        put(0, bits(t, 18, 11));
        put(3, 0xF8 + bits(t, 10, 8));
        put(2, bits(t, 7, 0));
        replaced++;
        return 4;
    }

    private int power() {
        if (b(0) / 4 == 18 && b(3) % 4 == 1) {
            long n = b(0) % 4 * 16777216L + b(1) * 65536L + b(2) * 256L + b(3) / 4 * 4;
            long t = moved(n, place());
            put(0, 18 * 4 + bits(t, 25, 24));
            put(1, bits(t, 23, 16));
            put(2, bits(t, 15, 8));
            put(3, bits(t, 7, 2) * 4 + 1);
            replaced++;
        }
        return 4;
    }

    private int sparc() {
        if (b(0) == 0x40 && b(1) / 64 == 0 || b(0) == 0x7F && b(1) / 64 == 3) {
            long t = moved(4 * (b(0) * 16777216L + b(1) * 65536L + b(2) * 256L + b(3)), place()) / 4;
            long sign = bits(t, 22, 22);
            put(0, 64 + 63 * sign);
            put(1, 192 * sign + bits(t, 21, 16));
            put(2, bits(t, 15, 8));
            put(3, bits(t, 7, 0));
            replaced++;
        }
        return 4;
    }

    private long number(int from) {
        return b(from) + b(from + 1) * 256L + b(from + 2) * 65536L + b(from + 3) * 16777216L;
    }

    private void putNumber(int from, long number) {
        for (int i = 0; i < 4; i++) {
            put(from + i, number >> 8 * i);
        }
    }

    private int risc() {
        long w = number(0);
        long r = bits(w, 11, 7);
        if (bits(w, 6, 0) == 0x6F && (r == 1 || r == 5)) {
            int[] from = {31, 19, 18, 17, 16, 15, 14, 13, 12, 20, 30, 29, 28, 27, 26, 25, 24, 23, 22, 21};
            long n = 0;
            for (int i = 0; i < 20; i++) {
                n += bits(w, from[i], from[i]) << (20 - i);
            }
            long t = moved(n, place());
            long again = bits(w, 11, 0);
            for (int i = 0; i < 20; i++) {
                again += bits(t, 20 - i, 20 - i) << from[i];
            }
            putNumber(0, again);
            replaced++;
            return 4;
        }
        if (bits(w, 6, 0) != 0x17 || r == 0) {
            return 2;
        }
        long v = number(4);
        if (bits(v, 19, 15) == r && (bits(v, 6, 0) == 0x67 || bits(v, 6, 0) == 0x03)) {
            long offset = bits(v, 31, 20) - 4096 * bits(v, 31, 31);
            long t = moved(bits(w, 31, 12) * 4096 + offset, place());
            putNumber(4, bits(v, 19, 0) + bits(t, 11, 0) * (1 << 20));
            putNumber(0, bits(w, 11, 0) + round((bits(t, 31, 12) + bits(t, 11, 11)) * 4096));
            replaced++;
        }
        return 8;
    }

    private int x86() {
        if (b(0) != 0xE8 && b(0) != 0xE9) {
            return 1;
        }
        long d = round(place() - last);
        last = place();
        for (long i = 0; i < Math.min(d, 5); i++) {
            mask = 2 * (mask % 8 + mask / 16 % 8 * 16);
        }
        if (d > 5) {
            mask = 0;
        }
        boolean end = b(4) == 0 || b(4) == 255;
        int half = mask / 2;
        if (!end || half >= 16 || !List.of(0, 1, 2, 4).contains(half % 8)) {
            mask = mask / 2 * 2 + 1;
            mask += end && mask / 16 % 2 == 0 ? 16 : 0;
            return 1;
        }
        long m = place() + 5;
        long t = moved(number(1), m);
        int turns = 0;
        while (mask != 0) {
            int i = new int[] {0, 1, 2, 2, 3}[half];
            long seen = bits(t, 31 - 8 * i, 24 - 8 * i);
            if (seen != 0 && seen != 255) {
                break;
            }
            t = moved(t ^ ((1L << (32 - 8 * i)) - 1), m);
            if (++turns > 3) {
                throw new AssertionError("no end");
            }
        }
        for (int i = 0; i < 3; i++) {
            put(1 + i, t >> 8 * i);
        }
        put(4, 255 * bits(t, 24, 24));
        mask = 0;
        replaced++;
        return 5;
    }
}
