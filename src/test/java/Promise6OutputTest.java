/** Promise 6: output answers each byte as 0 .. 255, and NONE where there is none. */
public final class Promise6OutputTest {
    public static void main(String[] args) {
        Check check = new Check();
        everyByte(check);
        noneBesideThem(check);
        noneOfAnEmptyOutput(check);
        heldBytesAreNotThere(check);
        atTheLimit(check);
        looksChangeNothing(check);
        check.end();
    }

    private static void everyByte(Check check) {
        check.sentence("Byte k of THE OUTPUT");
        BranchFilters x = new BranchFilters();
        for (int i = 0; i < 256; i += 4) {
            x.feed(4, i << 24 | (i + 1) << 16 | (i + 2) << 8 | i + 3, 0, 0, 0);
        }
        for (int i = 0; i < 256; i++) {
            check.same("output(" + i + ")", x.output(i), i);
        }
    }

    private static void noneBesideThem(Check check) {
        check.sentence("Byte k of THE OUTPUT; NONE.");
        BranchFilters x = new BranchFilters();
        for (int many = 1; many <= 40; many++) {
            x.feed(1, many << 24, 0, 0, 0);
            check.same("output(" + (many - 1) + ")", x.output(many - 1), many);
            for (int k : new int[] {many, many + 1, -1, -many, 2000, Integer.MIN_VALUE, Integer.MAX_VALUE}) {
                check.same("output(" + k + ") of " + many, x.output(k), BranchFilters.NONE);
            }
        }
    }

    private static void noneOfAnEmptyOutput(Check check) {
        check.sentence("Byte k of THE OUTPUT; NONE.");
        BranchFilters x = new BranchFilters();
        int[] all = {0, 1, -1, 1999, 2000, Integer.MIN_VALUE, Integer.MAX_VALUE};
        for (int k : all) {
            check.same("output(" + k + ") at first", x.output(k), BranchFilters.NONE);
        }
        x.feed(16, -1, -1, -1, -1);
        x.begin(0, true);
        for (int k : all) {
            check.same("output(" + k + ") behind begin", x.output(k), BranchFilters.NONE);
        }
        x.feed(16, -1, -1, -1, -1);
        x.filter(0, 0, 1);
        for (int k : all) {
            check.same("output(" + k + ") behind filter", x.output(k), BranchFilters.NONE);
        }
    }

    private static void heldBytesAreNotThere(Check check) {
        check.sentence("Byte k of THE OUTPUT; NONE.");
        BranchFilters x = new BranchFilters();
        x.filter(0, 3, 1);
        x.feed(7, 0x01020304, 0x05060700, 0, 0);
        check.same("output(3)", x.output(3), 4);
        check.same("output(4): still held", x.output(4), BranchFilters.NONE);
        x.finish();
        check.same("output(4)", x.output(4), 5);
        check.same("output(6)", x.output(6), 7);
        check.same("output(7)", x.output(7), BranchFilters.NONE);
    }

    private static void atTheLimit(Check check) {
        check.sentence("Byte k of THE OUTPUT; NONE.");
        BranchFilters x = new BranchFilters();
        Check.feed(x, new int[1984], 16);
        x.feed(15, -1, -1, -1, 0x12345600);
        check.same("output(1998)", x.output(1998), 0x56);
        check.same("output(1999)", x.output(1999), BranchFilters.NONE);
        x.feed(1, 0x78000000, 0, 0, 0);
        check.same("output(1999)", x.output(1999), 0x78);
        check.same("output(2000)", x.output(2000), BranchFilters.NONE);
        check.same("output(2001)", x.output(2001), BranchFilters.NONE);
    }

    private static void looksChangeNothing(Check check) {
        check.sentence("Byte k of THE OUTPUT; NONE.");
        BranchFilters x = new BranchFilters();
        x.feed(2, 0xABCD0000, 0, 0, 0);
        for (int i = 0; i < 3; i++) {
            check.same("output(0)", x.output(0), 0xAB);
            check.same("output(1)", x.output(1), 0xCD);
            check.same("output(2)", x.output(2), BranchFilters.NONE);
        }
        check.same("feed(1)", x.feed(1, 0xEF000000, 0, 0, 0), 3);
        check.same("output(2)", x.output(2), 0xEF);
    }
}
