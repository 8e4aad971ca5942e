/** Promise 6: output answers each byte as 0 .. 255, and NONE where there is none. */
public final class Promise6OutputTest {
    public static void main(String[] args) {
        Check check = new Check();
        BranchFilters x = new BranchFilters();
        for (int i = 0; i < 256; i += 4) {
            x.feed(4, i << 24 | (i + 1) << 16 | (i + 2) << 8 | i + 3, 0, 0, 0);
        }
        for (int i = 0; i < 256; i++) {
            check.same("output(" + i + ")", x.output(i), i);
        }
        for (int k : new int[] {-1, -2, 256, 257, 1999, 2000, 2001, Integer.MIN_VALUE, Integer.MAX_VALUE}) {
            check.same("output(" + k + ")", x.output(k), BranchFilters.NONE);
        }
        x.begin(0, true);
        check.same("output(0) behind begin", x.output(0), BranchFilters.NONE);
        x.filter(0, 3, 1);
        x.feed(7, 0x01020304, 0x05060700, 0, 0);
        check.same("output(3)", x.output(3), 4);
        check.same("output(4): still held", x.output(4), BranchFilters.NONE);
        x.finish();
        check.same("output(4)", x.output(4), 5);
        check.same("output(6)", x.output(6), 7);
        check.same("output(7)", x.output(7), BranchFilters.NONE);
        check.end();
    }
}
