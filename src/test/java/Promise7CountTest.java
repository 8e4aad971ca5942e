/** Promise 7: the six counts of a filter, and IllegalArgument for any other. */
public final class Promise7CountTest {
    public static void main(String[] args) {
        Check check = new Check();
        everyCount(check);
        placesInTheChain(check);
        alsoIfItIsTheSame(check);
        theMaskIsOfX86Alone(check);
        wrongNumbers(check);
        check.end();
    }

    private static void everyCount(Check check) {
        BranchFilters x = new BranchFilters();
        x.filter(2, 2, 17);
        Check.feed(x, Check.bytes("E8 01 00 00 00 E9 02 00 00 00 90 E8 11 22 33 44"), 16);
        check.same("X86", Check.counts(x, 2), "2 17 4 12 2 1");
        x.finish();
        check.same("X86 behind the finish", Check.counts(x, 2), "2 17 0 16 2 1");
    }

    private static void placesInTheChain(Check check) {
        BranchFilters x = new BranchFilters();
        x.filter(0, 2, 4);
        x.filter(1, 7, 3);
        x.filter(2, 3, 2);
        Check.feed(x, new int[16], 16);
        check.same("X86", Check.counts(x, 0), "2 4 4 12 0 0");
        check.same("RISC", Check.counts(x, 1), "7 3 6 6 0 0");
        check.same("ARM", Check.counts(x, 2), "3 2 2 4 0 0");
        check.same("NONE", Check.counts(x, 3), "0 1 0 4 0 0");
        check.same("feed(0)", x.feed(0, 0, 0, 0, 0), 4);
        x.begin(0, false);
        Check.feed(x, new int[16], 16);
        check.same("NONE, decoding", Check.counts(x, 3), "0 1 0 16 0 0");
        check.same("ARM, decoding", Check.counts(x, 2), "3 2 0 16 0 0");
        check.same("RISC, decoding", Check.counts(x, 1), "7 3 6 10 0 0");
        check.same("X86, decoding", Check.counts(x, 0), "2 4 4 6 0 0");
    }

    private static void alsoIfItIsTheSame(Check check) {
        check.oneFilter(2, -5, true, "E8 01 02 03 00", "E8 01 02 03 00", 1);
        check.oneFilter(3, -8, true, "01 02 03 EB", "01 02 03 EB", 1);
        check.oneFilter(4, -4, true, "01 F2 03 FC", "01 F2 03 FC", 1);
        check.oneFilter(5, 0, true, "48 00 01 01", "48 00 01 01", 1);
        check.oneFilter(6, 0, true, "40 00 01 01", "40 00 01 01", 1);
        check.oneFilter(7, 0, true, "EF 12 34 56 00 00 00 00", "EF 12 34 56 00 00 00 00", 1);
        check.oneFilter(7, 0, true, "EF 10 34 56 00 00 00 00", "EF 10 34 56 00 00 00 00", 1);
        check.oneFilter(7, 0, true, "97 10 34 56 67 80 30 F2", "97 10 34 56 67 80 30 F2", 1);
        check.oneFilter(1, 0, true, "01 02 03", "01 01 01", 0);
        check.oneFilter(0, 0, true, "E8 00 00 00 00", "E8 00 00 00 00", 0);
    }

    private static void theMaskIsOfX86Alone(Check check) {
        for (int kind = 0; kind < 8; kind++) {
            BranchFilters x = new BranchFilters();
            x.filter(0, 2, 1);
            Check.feed(x, Check.bytes("E8 11 22 33 44 55 66 77 88"), 16);
            check.same("MASK of X86", x.count(0, 5), 1);
            x.filter(0, kind, 1);
            check.same("MASK of kind " + kind, x.count(0, 5), 0);
            Check.feed(x, Check.bytes("E8 11 22 33 44 55 66 77 88"), 16);
            check.same("MASK of kind " + kind + " with bytes", x.count(0, 5), kind == 2 ? 1 : 0);
        }
    }

    private static void wrongNumbers(Check check) {
        BranchFilters x = new BranchFilters();
        x.feed(3, 0, 0, 0, 0);
        for (int wrong : new int[] {-1, 4, 5, Integer.MIN_VALUE, Integer.MAX_VALUE}) {
            for (int what = -1; what <= 6; what++) {
                int asked = what;
                check.illegalArgument("count(" + wrong + ", " + what + ")", () -> x.count(wrong, asked));
            }
        }
        for (int wrong : new int[] {-1, 6, 7, Integer.MIN_VALUE, Integer.MAX_VALUE}) {
            for (int filter = 0; filter < 4; filter++) {
                int asked = filter;
                check.illegalArgument("count(" + filter + ", " + wrong + ")", () -> x.count(asked, wrong));
            }
        }
        check.same("feed goes on", x.feed(1, 0, 0, 0, 0), 4);
    }
}
