/** Promise 3: begin empties the output and the filters, and sets START and the way. */
public final class Promise3BeginTest {
    public static void main(String[] args) {
        Check check = new Check();
        outputIsEmpty(check);
        filtersHoldNothing(check);
        filtersHadNoBytes(check);
        maskIsForgotten(check);
        deltaHadNoBytes(check);
        kindsAndDistancesStay(check);
        everyStart(check);
        bothWays(check);
        finishIsForgotten(check);
        limitCountsAnew(check);
        check.end();
    }

    private static void outputIsEmpty(Check check) {
        check.sentence("All begins anew: an empty OUTPUT");
        BranchFilters x = new BranchFilters();
        x.begin(5, false);
        check.same("finish of nothing", x.finish(), 0);
        x.begin(5, false);
        Check.feed(x, "01 02 03 04 05");
        x.begin(5, false);
        check.same("output(0)", x.output(0), BranchFilters.NONE);
        check.same("output(4)", x.output(4), BranchFilters.NONE);
        check.indexOutOfBounds("word(0)", () -> x.word(0));
        check.same("feed(0)", x.feed(0, 0, 0, 0, 0), 0);
        check.same("feed(1)", x.feed(1, 0x77000000, 0, 0, 0), 1);
        check.same("output(0)", x.output(0), 0x77);
        check.same("output(1)", x.output(1), BranchFilters.NONE);
    }

    private static void filtersHoldNothing(Check check) {
        check.sentence("FILTERS that HOLD nothing and had no bytes");
        BranchFilters x = new BranchFilters();
        x.filter(0, 7, 5);
        x.filter(1, 3, 6);
        Check.feed(x, "EF 00 00 00 01 02 03 EB 05 06 07 08 09");
        check.same("RISC", Check.counts(x, 0), "7 5 7 6 1 0");
        check.same("ARM", Check.counts(x, 1), "3 6 2 4 0 0");
        x.begin(0, true);
        check.same("RISC anew", Check.counts(x, 0), "7 5 0 0 0 0");
        check.same("ARM anew", Check.counts(x, 1), "3 6 0 0 0 0");
        check.same("finish: nothing is held", x.finish(), 0);
    }

    private static void filtersHadNoBytes(Check check) {
        check.sentence("FILTERS that HOLD nothing and had no bytes");
        BranchFilters x = new BranchFilters();
        x.filter(0, 5, 1);
        Check.feed(x, "48 00 00 01 48 00 00 01 48");
        x.begin(0, true);
        Check.feed(x, "48 00 00 01");
        check.same("the place is START again", Check.output(x), "48 00 00 01");
        check.same("given and put in, anew", Check.counts(x, 0), "5 1 0 4 1 0");
    }

    private static void maskIsForgotten(Check check) {
        check.sentence("FILTERS that HOLD nothing and had no bytes");
        BranchFilters x = new BranchFilters();
        x.filter(0, 2, 1);
        for (int i = 0; i < 2; i++) {
            Check.feed(x, "E8 E8 E8 11 22 33 00");
            check.same("the MASK", x.count(0, 5), 23);
            x.begin(3, true);
            check.same("the MASK anew", x.count(0, 5), 0);
        }
        Check.feed(x, "E8 10 00 00 00");
        check.same("a call anew", Check.output(x), "E8 18 00 00 00");
    }

    private static void deltaHadNoBytes(Check check) {
        check.sentence("FILTERS that HOLD nothing and had no bytes");
        for (int distance = 1; distance <= 32; distance++) {
            for (int start = 0; start < 32; start++) {
                BranchFilters x = new BranchFilters();
                x.filter(0, 1, distance);
                Check.feed(x, "91 92 93 94 95 96 97 98 99 9A 9B 9C 9D 9E 9F A0 A1 A2 A3 A4 A5 A6 A7 A8 A9 AA AB AC AD AE AF B0");
                x.begin(start, start % 2 == 0);
                Check.feed(x, "05");
                check.same("the first byte, distance " + distance + ", START " + start, x.output(0), 5);
            }
        }
    }

    private static void kindsAndDistancesStay(Check check) {
        check.sentence("All begins anew: an empty OUTPUT, FILTERS that HOLD nothing and had no bytes");
        BranchFilters x = new BranchFilters();
        for (int filter = 0; filter < 4; filter++) {
            x.filter(filter, 7 - 2 * filter, 32 - filter);
        }
        x.begin(9, false);
        for (int filter = 0; filter < 4; filter++) {
            check.same("counts of " + filter, Check.counts(x, filter), (7 - 2 * filter) + " " + (32 - filter) + " 0 0 0 0");
        }
    }

    private static void everyStart(Check check) {
        check.sentence("START, and ENCODING or DECODING");
        check.thereAndBack(5, 0, "48 00 02 01", "48 00 02 01", 1);
        check.thereAndBack(5, 0x100, "48 00 02 01", "48 00 03 01", 1);
        check.thereAndBack(5, -0x100, "48 00 02 01", "48 00 01 01", 1);
        check.thereAndBack(5, -4, "48 00 00 01 48 00 00 01", "4B FF FF FD 48 00 00 01", 2);
        check.thereAndBack(5, Integer.MIN_VALUE, "48 00 02 01", "48 00 02 01", 1);
        check.oneFilter(5, Integer.MAX_VALUE, true, "48 00 00 01", "4B FF FF FD", 1);
        check.oneFilter(5, Integer.MAX_VALUE, false, "48 00 00 01", "48 00 00 01", 1);
        check.oneFilter(5, -1, false, "48 00 00 01", "48 00 00 01", 1);
        // All 32 bits of START are kept: RISC shows every one of them.
        for (int bit = 12; bit < 32; bit++) {
            int w = 1 << bit | 0x97;
            String due = Check.hex(w & 0xFF, w >>> 8 & 0xFF, w >>> 16 & 0xFF, w >>> 24) + " E7 80 00 00";
            check.thereAndBack(7, 1 << bit, "97 00 00 00 E7 80 00 00", due, 1);
        }
    }

    private static void bothWays(Check check) {
        check.sentence("START, and ENCODING or DECODING");
        BranchFilters x = new BranchFilters();
        x.filter(0, 1, 1);
        x.begin(0, false);
        Check.feed(x, "01 02 03");
        check.same("decoding", Check.output(x), "01 03 06");
        x.begin(0, true);
        Check.feed(x, "01 03 06");
        check.same("encoding", Check.output(x), "01 02 03");
        x.begin(0, false);
        x.begin(0, false);
        Check.feed(x, "01 02 03");
        check.same("decoding again", Check.output(x), "01 03 06");
    }

    private static void finishIsForgotten(Check check) {
        check.sentence("All begins anew");
        BranchFilters x = new BranchFilters();
        for (int i = 0; i < 3; i++) {
            x.finish();
            x.begin(0, i == 1);
            check.same("feed behind finish and begin", x.feed(1, 0, 0, 0, 0), 1);
        }
    }

    private static void limitCountsAnew(Check check) {
        check.sentence("All begins anew");
        BranchFilters x = new BranchFilters();
        for (int i = 0; i < 125; i++) {
            x.feed(16, i, i, i, i);
        }
        check.illegalState("feed(1) behind 2000", () -> x.feed(1, 0, 0, 0, 0));
        x.begin(0, true);
        for (int i = 1; i <= 125; i++) {
            check.same("feed anew", x.feed(16, 0, 0, 0, 0), 16 * i);
        }
        check.illegalState("feed(1) behind 2000 anew", () -> x.feed(1, 0, 0, 0, 0));
    }
}
