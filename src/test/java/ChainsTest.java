import java.util.Arrays;
import java.util.List;
import java.util.Random;

/** Chains of all kinds against the reference, cut in all ways: each answer, the output, and the counts on the way. */
public final class ChainsTest {
    private static final int[] STARTS = {0, 1, 2, 3, 4, 0x1000, 0x7FFFFFF0, -1, -2, -4, -100, 0x00FFFFF0, 0x00FFF003};
    private static final int[][] COMMON = {
        {0xE8, 0xE9, 0x00, 0xFF, 0x90, 0x01, 0xFE},
        {0xE8, 0xE8, 0xE9, 0x00, 0xFF, 0x05, 0xFA},
        {0xEB, 0x00, 0xFF, 0xFE, 0xEA, 0x12},
        {0xF0, 0xF7, 0xF8, 0xFF, 0x00, 0x12, 0xF3, 0xFC},
        {0x48, 0x4B, 0x49, 0x01, 0xFD, 0x00, 0xFF, 0x02},
        {0x40, 0x7F, 0x00, 0x3F, 0xC0, 0xFF, 0x12},
        {0xEF, 0x00, 0x02, 0xFF, 0x97, 0x67, 0xE7, 0x80, 0x03},
    };

    // An object has 512 calls: so many looks at all counts are left beside the pieces and the output.
    private static final int LOOKS = 8;

    private final Check check;
    private final int[] kinds;
    private final int[] distances;
    private final int start;
    private final boolean encoding;
    private final int[] in;
    private final BranchFilters x = new BranchFilters();

    private ChainsTest(Check check, int[] kinds, int[] distances, int start, boolean encoding, int[] in) {
        this.check = check;
        this.kinds = kinds;
        this.distances = distances;
        this.start = start;
        this.encoding = encoding;
        this.in = in;
        for (int f = 0; f < 4; f++) {
            x.filter(f, kinds[f], distances[f]);
        }
        x.begin(start, encoding);
    }

    public static void main(String[] args) {
        Check check = new Check();
        Random random = new Random(20261115);
        for (int kind = 0; kind < 8; kind++) {
            for (int i = 0; i < 150; i++) {
                int[] kinds = new int[4];
                kinds[random.nextInt(4)] = kind;
                oneRun(check, random, kinds, code(random, kind, 20 + random.nextInt(120)));
            }
        }
        for (int i = 0; i < 600; i++) {
            int[] kinds = {random.nextInt(8), random.nextInt(8), random.nextInt(8), random.nextInt(8)};
            oneRun(check, random, kinds, code(random, kinds[random.nextInt(4)], 20 + random.nextInt(120)));
        }
        for (int i = 0; i < 300; i++) {
            thereAndBack(check, random);
        }
        check.end();
    }

    private static void oneRun(Check check, Random random, int[] kinds, int[] in) {
        int[] distances = new int[4];
        for (int f = 0; f < 4; f++) {
            distances[f] = 1 + random.nextInt(32);
        }
        int start = random.nextInt(3) == 0 ? random.nextInt() : STARTS[random.nextInt(STARTS.length)];
        new ChainsTest(check, kinds, distances, start, random.nextBoolean(), in).run(random);
    }

    private void run(Random random) {
        int most = 1 + random.nextInt(16);
        int looks = LOOKS;
        for (int from = 0; from < in.length; ) {
            int many = Math.min(random.nextInt(8) == 0 ? 0 : 1 + random.nextInt(most), in.length - from);
            int answer = Check.feedPiece(x, in, from, many);
            from += many;
            boolean look = looks > 0 && random.nextInt(in.length) < LOOKS * most;
            looks -= look ? 1 : 0;
            compare(answer, from, false, look, from == in.length);
        }
        compare(x.finish(), in.length, true, true, true);
    }

    private void compare(int answer, int came, boolean finish, boolean withCounts, boolean withOutput) {
        String what = Arrays.toString(kinds) + " from " + start + (encoding ? " encoding " : " decoding ") + Check.hex(in)
                + (finish ? " finished" : " behind " + came);
        String[] counts = new String[4];
        List<Integer> first = Arrays.stream(in).limit(came).boxed().toList();
        List<Integer> due = Reference.run(kinds, distances, start, encoding, first, finish, counts);
        check.same(what, answer, due.size());
        for (int f = 0; withCounts && f < 4; f++) {
            check.same(what + ", counts of " + f, Check.counts(x, f), counts[f]);
        }
        if (withOutput) {
            check.same(what, Check.output(x), Check.hex(due.stream().mapToInt(b -> b).toArray()));
        }
    }

    // With START and all places a multiple of four nothing is lost: decoding gives back what was encoded.
    private static void thereAndBack(Check check, Random random) {
        int[] kinds = {random.nextInt(8), random.nextInt(8), random.nextInt(8), random.nextInt(8)};
        int[] in = code(random, kinds[random.nextInt(4)], 180);
        BranchFilters x = new BranchFilters();
        for (int f = 0; f < 4; f++) {
            x.filter(f, kinds[f], 1 + random.nextInt(32));
        }
        int start = random.nextInt() & ~3;
        x.begin(start, true);
        Check.feed(x, in, 1 + random.nextInt(16));
        check.same("as many as came", x.finish(), in.length);
        int[] encoded = Check.outputs(x);
        x.begin(start, false);
        Check.feed(x, encoded, 1 + random.nextInt(16));
        x.finish();
        check.same(Arrays.toString(kinds) + " there and back", Check.output(x), Check.hex(in));
    }

    private static int[] code(Random random, int kind, int size) {
        int[] bytes = mixed(random, kind, size);
        if (kind == 7) {
            putRiscPairs(random, bytes);
        } else if (kind >= 3) {
            putBranches(random, kind, bytes);
        }
        return bytes;
    }

    private static int[] mixed(Random random, int kind, int size) {
        int[] bytes = new int[size];
        int[] common = COMMON[kind < 2 ? random.nextInt(COMMON.length) : kind == 2 ? random.nextInt(2) : kind - 1];
        int strange = random.nextInt(4);
        for (int i = 0; i < size; i++) {
            bytes[i] = random.nextInt(10) < strange ? random.nextInt(256) : common[random.nextInt(common.length)];
        }
        return bytes;
    }

    private static void putRiscPairs(Random random, int[] bytes) {
        for (int i = 0; i + 8 <= bytes.length; i += 2 + 2 * random.nextInt(5)) {
            int r = random.nextInt(32);
            int w = random.nextInt() << 12 | r << 7 | (random.nextBoolean() ? 0x17 : 0x6F);
            int v = random.nextInt() << 20 | (random.nextInt(4) == 0 ? 3 : r) << 15 | random.nextInt(256) << 7
                    | (random.nextBoolean() ? 0x67 : random.nextBoolean() ? 0x03 : 0x13);
            for (int k = 0; k < 4; k++) {
                bytes[i + k] = w >>> 8 * k & 255;
                bytes[i + 4 + k] = v >>> 8 * k & 255;
            }
        }
    }

    private static void putBranches(Random random, int kind, int[] bytes) {
        for (int i = 0; i + 4 <= bytes.length; i += 2 + 2 * random.nextInt(4)) {
            int[] branch = branch(random, kind);
            System.arraycopy(branch, 0, bytes, i, 4);
        }
    }

    private static int[] branch(Random random, int kind) {
        int[] b = {random.nextInt(256), random.nextInt(256), random.nextInt(256), random.nextInt(256)};
        boolean back = random.nextBoolean();
        switch (kind) {
            case 3: return new int[] {b[0], b[1], b[2], 0xEB};
            case 4: return new int[] {b[0], 0xF0 | b[1] & 7, b[2], 0xF8 | b[3] & 7};
            case 5: return new int[] {0x48 | b[0] & 3, b[1], b[2], b[3] & 0xFC | 1};
            default: return new int[] {back ? 0x7F : 0x40, back ? b[1] | 0xC0 : b[1] & 0x3F, b[2], b[3]};
        }
    }
}
