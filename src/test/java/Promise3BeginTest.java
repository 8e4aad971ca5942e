/** Promise 3: begin empties the output and the filters, and sets START and the way. */
public final class Promise3BeginTest {
    public static void main(String[] args) {
        Check check = new Check();
        emptiesAll(check);
        forgetsTheMaskAndLast(check);
        forgetsWhatDeltaHad(check);
        setsStartAndWay(check);
        countsTheLimitAnew(check);
        check.end();
    }

    private static void emptiesAll(Check check) {
        BranchFilters x = new BranchFilters();
        x.filter(0, 7, 5);
        x.filter(1, 3, 6);
        Check.feed(x, Check.bytes("EF 00 00 00 01 02 03 EB 05 06 07 08 09"), 16);
        check.same("RISC", Check.counts(x, 0), "7 5 7 6 1 0");
        check.same("ARM", Check.counts(x, 1), "3 6 2 4 0 0");
        x.begin(0, true);
        check.same("RISC anew", Check.counts(x, 0), "7 5 0 0 0 0");
        check.same("ARM anew", Check.counts(x, 1), "3 6 0 0 0 0");
        check.same("output(0)", x.output(0), BranchFilters.NONE);
        check.indexOutOfBounds("word(0)", () -> x.word(0));
        check.same("finish: nothing is held", x.finish(), 0);
        x.begin(0, true);
        check.same("finish: it may come again", x.finish(), 0);
    }

    private static void forgetsTheMaskAndLast(Check check) {
        BranchFilters x = new BranchFilters();
        x.filter(0, 2, 1);
        for (int i = 0; i < 2; i++) {
            Check.feed(x, Check.bytes("E8 E8 E8 11 22 33 00"), 16);
            check.same("the MASK", x.count(0, 5), 23);
            x.begin(3, true);
            check.same("the MASK anew", x.count(0, 5), 0);
        }
        Check.feed(x, Check.bytes("E8 10 00 00 00"), 16);
        check.same("a call anew", Check.hex(Check.outputs(x)), "E8 18 00 00 00");
    }

    private static void forgetsWhatDeltaHad(Check check) {
        for (int distance = 1; distance <= 32; distance++) {
            for (int start = 0; start < 2; start++) {
                BranchFilters x = new BranchFilters();
                x.filter(0, 1, distance);
                for (int i = 0; i < 4; i++) {
                    Check.feed(x, Check.bytes("91 92 93 94 95 96 97 98 99 9A 9B 9C"), 16);
                }
                x.begin(start, false);
                Check.feed(x, Check.bytes("05"), 16);
                check.same("the first byte", x.output(0), 5);
            }
        }
    }

    private static void setsStartAndWay(Check check) {
        check.oneFilter(5, 0, true, "48 00 02 01", "48 00 02 01", 1);
        check.oneFilter(5, 0x100, true, "48 00 02 01", "48 00 03 01", 1);
        check.oneFilter(5, 0x100, false, "48 00 02 01", "48 00 01 01", 1);
        check.oneFilter(5, -0x100, true, "48 00 02 01", "48 00 01 01", 1);
        check.oneFilter(5, Integer.MIN_VALUE, false, "48 00 02 01", "48 00 02 01", 1);
        check.oneFilter(5, Integer.MAX_VALUE - 3, true, "48 00 00 01", "4B FF FF FD", 1);
    }

    private static void countsTheLimitAnew(Check check) {
        BranchFilters x = new BranchFilters();
        for (int i = 0; i < 125; i++) {
            x.feed(16, i, i, i, i);
        }
        check.illegalState("feed(1) behind 2000", () -> x.feed(1, 0, 0, 0, 0));
        x.begin(0, true);
        check.same("feed anew", x.feed(16, 0, 0, 0, 0), 16);
    }
}
