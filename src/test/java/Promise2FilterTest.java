/** Promise 2: filter sets a kind and a distance, begins anew with the same START and way, and refuses wrong numbers. */
public final class Promise2FilterTest {
    private static final int LOW = Integer.MIN_VALUE;
    private static final int HIGH = Integer.MAX_VALUE;

    public static void main(String[] args) {
        Check check = new Check();
        kindsFromZeroToSeven(check);
        distancesWhateverTheKind(check);
        onlyTheOneFilter(check);
        allBeginsAnew(check);
        alsoIfItIsTheSame(check);
        behindTheFinishAndTheLastByte(check);
        keepsStart(check);
        keepsTheWay(check);
        wrongFilters(check);
        wrongKinds(check);
        wrongDistances(check);
        check.end();
    }

    private static void kindsFromZeroToSeven(Check check) {
        check.sentence("A FILTER of the CHAIN is of a KIND 0 .. 7");
        BranchFilters x = new BranchFilters();
        for (int filter = 0; filter < 4; filter++) {
            for (int kind = 7; kind >= 0; kind--) {
                x.filter(filter, kind, 1);
                check.same("kind of " + filter, x.count(filter, 0), kind);
            }
        }
    }

    private static void distancesWhateverTheKind(Check check) {
        check.sentence("with a distance 1 .. 32 (whatever its KIND)");
        for (int kind = 0; kind < 8; kind++) {
            BranchFilters x = new BranchFilters();
            for (int distance = 1; distance <= 32; distance++) {
                int filter = distance % 4;
                x.filter(filter, kind, distance);
                check.same("kind " + kind + ", distance", x.count(filter, 1), distance);
            }
        }
    }

    private static void onlyTheOneFilter(Check check) {
        check.sentence("A FILTER of the CHAIN is of a KIND 0 .. 7, with a distance 1 .. 32 (whatever its KIND).");
        BranchFilters x = new BranchFilters();
        for (int filter = 0; filter < 4; filter++) {
            x.filter(filter, 7 - filter, 32 - filter);
        }
        for (int filter = 0; filter < 4; filter++) {
            check.same("counts of " + filter, Check.counts(x, filter), (7 - filter) + " " + (32 - filter) + " 0 0 0 0");
        }
    }

    private static void allBeginsAnew(Check check) {
        check.sentence("All begins anew, as with begin");
        BranchFilters x = new BranchFilters();
        x.filter(0, 2, 1);
        x.filter(1, 1, 2);
        Check.feed(x, "E8 11 22 33 44 55 66 77");
        x.filter(3, 0, 1);
        check.same("output(0)", x.output(0), BranchFilters.NONE);
        check.indexOutOfBounds("word(0)", () -> x.word(0));
        check.same("X86 anew", Check.counts(x, 0), "2 1 0 0 0 0");
        check.same("DELTA anew", Check.counts(x, 1), "1 2 0 0 0 0");
        check.same("NONE anew", Check.counts(x, 3), "0 1 0 0 0 0");
        check.same("feed", x.feed(6, 0x01020304, 0x05060000, 0, 0), 2);
        check.same("finish", x.finish(), 6);
        check.same("no bytes from before", Check.output(x), "01 02 02 02 02 02");
    }

    private static void alsoIfItIsTheSame(Check check) {
        check.sentence("All begins anew, as with begin");
        BranchFilters x = new BranchFilters();
        x.filter(1, 3, 4);
        Check.feed(x, "00 00 00 EB 11");
        x.filter(1, 3, 4);
        check.same("counts", Check.counts(x, 1), "3 4 0 0 0 0");
        check.same("output(0)", x.output(0), BranchFilters.NONE);
        check.same("finish", x.finish(), 0);
    }

    private static void behindTheFinishAndTheLastByte(Check check) {
        check.sentence("All begins anew, as with begin");
        BranchFilters x = new BranchFilters();
        x.finish();
        x.filter(0, 0, 1);
        check.same("feed behind finish and filter", x.feed(1, 0, 0, 0, 0), 1);
        check.same("finish behind finish and filter", x.finish(), 1);
        x.filter(0, 0, 1);
        for (int i = 1; i <= 125; i++) {
            x.feed(16, 0, 0, 0, 0);
        }
        check.illegalState("feed behind 2000", () -> x.feed(1, 0, 0, 0, 0));
        x.filter(0, 0, 1);
        for (int i = 1; i <= 125; i++) {
            check.same("feed behind 2000 and filter", x.feed(16, 0, 0, 0, 0), 16 * i);
        }
    }

    private static void keepsStart(Check check) {
        check.sentence("with the same START and way");
        int[] starts = {0x100, -4, LOW, HIGH - 3};
        String[] due = {"48 00 03 01", "48 00 01 FD", "48 00 02 01", "48 00 01 FD"};
        for (int i = 0; i < starts.length; i++) {
            BranchFilters x = new BranchFilters();
            x.begin(starts[i], true);
            x.filter(2, 5, 1);
            x.filter(1, 0, 9);
            Check.feed(x, "48 00 02 01");
            check.same("POWER from " + starts[i], Check.output(x), due[i]);
            x.finish();
            x.filter(2, 5, 1);
            Check.feed(x, "48 00 02 01");
            check.same("POWER from " + starts[i] + " again, not from where it was", Check.output(x), due[i]);
        }
    }

    private static void keepsTheWay(Check check) {
        check.sentence("with the same START and way");
        BranchFilters x = new BranchFilters();
        x.begin(0x100, false);
        x.filter(2, 5, 1);
        Check.feed(x, "48 00 02 01");
        check.same("POWER, decoding", Check.output(x), "48 00 01 01");
        x.filter(0, 1, 1);
        Check.feed(x, "01 02 03 04");
        check.same("DELTA, decoding", Check.output(x), "01 03 06 0A");
        x.filter(3, 7, 1);
        Check.feed(x, "00 00 00 00");
        check.same("FILTER 3 first", x.count(3, 2), 4);
        x.begin(0x100, true);
        x.filter(1, 0, 9);
        Check.feed(x, "48 00 02 01");
        check.same("FILTER 3 last", x.count(3, 2), 4);
    }

    private static void wrongFilters(Check check) {
        check.sentence("IllegalArgument.");
        for (int wrong : new int[] {-1, 4, 5, LOW, HIGH}) {
            refused(check, wrong, 0, 1);
        }
    }

    private static void wrongKinds(Check check) {
        check.sentence("IllegalArgument.");
        for (int wrong : new int[] {-1, 8, 9, LOW, HIGH}) {
            for (int filter = 0; filter < 4; filter++) {
                refused(check, filter, wrong, 1);
            }
        }
    }

    private static void wrongDistances(Check check) {
        check.sentence("IllegalArgument.");
        for (int wrong : new int[] {0, 33, -1, LOW, HIGH}) {
            for (int kind = 0; kind < 8; kind++) {
                refused(check, kind % 4, kind, wrong);
            }
        }
    }

    private static void refused(Check check, int filter, int kind, int distance) {
        BranchFilters x = new BranchFilters();
        x.filter(0, 3, 7);
        x.begin(4, true);
        Check.feed(x, "01 02 03 EB 05 06");
        String what = "filter(" + filter + ", " + kind + ", " + distance + ")";
        check.illegalArgument(what, () -> x.filter(filter, kind, distance));
        check.same("behind " + what, Check.counts(x, 0), "3 7 2 4 1 0");
        for (int other = 1; other < 4; other++) {
            check.same("behind " + what, Check.counts(x, other), "0 1 0 4 0 0");
        }
        Check.feed(x, "07 EB");
        check.same("behind " + what, Check.output(x), "04 02 03 EB 09 06 07 EB");
    }
}
