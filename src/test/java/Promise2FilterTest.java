/** Promise 2: filter sets a kind and a distance, begins anew with the same START and way, and refuses wrong numbers. */
public final class Promise2FilterTest {
    public static void main(String[] args) {
        Check check = new Check();
        everyKindAndDistance(check);
        keepsStartAndWay(check);
        allBeginsAnew(check);
        wrongNumbersChangeNothing(check);
        check.end();
    }

    private static void everyKindAndDistance(Check check) {
        BranchFilters x = new BranchFilters();
        for (int filter = 0; filter < 4; filter++) {
            for (int kind = 0; kind < 8; kind++) {
                for (int distance = 1; distance <= 32; distance += kind + 1) {
                    x.filter(filter, kind, distance);
                    check.same("kind", x.count(filter, 0), kind);
                    check.same("distance", x.count(filter, 1), distance);
                }
            }
            x.filter(filter, 7 - filter, 32 - filter);
        }
        for (int filter = 0; filter < 4; filter++) {
            check.same("counts of " + filter, Check.counts(x, filter), (7 - filter) + " " + (32 - filter) + " 0 0 0 0");
        }
    }

    private static void keepsStartAndWay(Check check) {
        BranchFilters x = new BranchFilters();
        x.begin(0x100, false);
        x.filter(2, 5, 1);
        Check.feed(x, Check.bytes("48 00 02 01"), 16);
        check.same("POWER, decoding from 100h", Check.hex(Check.outputs(x)), "48 00 01 01");
        x.begin(0x100, true);
        x.filter(1, 0, 9);
        Check.feed(x, Check.bytes("48 00 02 01"), 16);
        check.same("POWER, encoding from 100h", Check.hex(Check.outputs(x)), "48 00 03 01");
    }

    private static void allBeginsAnew(Check check) {
        BranchFilters x = new BranchFilters();
        x.filter(0, 2, 1);
        x.filter(1, 1, 2);
        Check.feed(x, Check.bytes("E8 11 22 33 44 55 66 77"), 16);
        x.finish();
        x.filter(3, 0, 1);
        check.same("output(0)", x.output(0), BranchFilters.NONE);
        check.same("X86 anew", Check.counts(x, 0), "2 1 0 0 0 0");
        check.same("DELTA anew", Check.counts(x, 1), "1 2 0 0 0 0");
        check.same("feed behind a finish and a filter", x.feed(6, 0x01020304, 0x05060000, 0, 0), 2);
        check.same("finish", x.finish(), 6);
        check.same("no bytes from before", Check.hex(Check.outputs(x)), "01 02 02 02 02 02");
    }

    private static void wrongNumbersChangeNothing(Check check) {
        BranchFilters x = new BranchFilters();
        x.filter(0, 3, 7);
        x.feed(6, 0x01020304, 0x05060000, 0, 0);
        int[][] wrong = {
            {-1, 0, 1}, {4, 0, 1}, {Integer.MIN_VALUE, 0, 1}, {Integer.MAX_VALUE, 0, 1},
            {0, -1, 1}, {0, 8, 1}, {0, Integer.MIN_VALUE, 1}, {0, Integer.MAX_VALUE, 1},
            {0, 0, 0}, {0, 0, 33}, {0, 1, 0}, {0, 1, 33}, {0, 0, Integer.MIN_VALUE}, {0, 0, Integer.MAX_VALUE}};
        for (int[] w : wrong) {
            String what = "filter(" + w[0] + ", " + w[1] + ", " + w[2] + ")";
            check.illegalArgument(what, () -> x.filter(w[0], w[1], w[2]));
            check.same("counts behind " + what, Check.counts(x, 0), "3 7 2 4 0 0");
            check.same("output behind " + what, Check.hex(Check.outputs(x)), "01 02 03 04");
        }
        check.same("finish", x.finish(), 6);
    }
}
