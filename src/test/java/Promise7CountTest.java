/** Promise 7: the six counts of a filter, and IllegalArgument for any other. */
public final class Promise7CountTest {
    private static final int LOW = Integer.MIN_VALUE;
    private static final int HIGH = Integer.MAX_VALUE;

    public static void main(String[] args) {
        Check check = new Check();
        kindAndDistance(check);
        held(check);
        given(check);
        placesInTheChain(check);
        putInPlaceOfAnother(check);
        alsoIfThatIsTheSame(check);
        neverByTheFinish(check);
        maskOfX86(check);
        maskBehindTheFinish(check);
        noMaskOfTheOthers(check);
        wrongFilters(check);
        wrongWhats(check);
        check.end();
    }

    private static void kindAndDistance(Check check) {
        check.sentence("what = 0 its KIND, 1 its distance");
        BranchFilters x = new BranchFilters();
        x.filter(0, 7, 32);
        x.filter(3, 1, 1);
        check.same("kind of 0", x.count(0, 0), 7);
        check.same("distance of 0", x.count(0, 1), 32);
        check.same("kind of 3", x.count(3, 0), 1);
        check.same("distance of 3", x.count(3, 1), 1);
        Check.feed(x, new int[40], 16);
        x.finish();
        check.same("kind of 0 behind bytes", x.count(0, 0), 7);
        check.same("distance of 0 behind bytes", x.count(0, 1), 32);
    }

    private static void held(Check check) {
        check.sentence("2 how many bytes it HOLDS");
        int[] most = {0, 0, 4, 3, 3, 3, 3, 7};
        for (int kind = 0; kind < 8; kind++) {
            BranchFilters x = new BranchFilters();
            x.filter(2, kind, 1);
            check.same("kind " + kind + " at first", x.count(2, 2), 0);
            Check.feed(x, new int[most[kind]], 16);
            check.same("kind " + kind + ", as many as it can", x.count(2, 2), most[kind]);
            x.feed(1, 0, 0, 0, 0);
            check.same("kind " + kind + ", one more", x.count(2, 2), new int[] {0, 0, 4, 0, 2, 0, 0, 6}[kind]);
            x.finish();
            check.same("kind " + kind + " behind the finish", x.count(2, 2), 0);
        }
    }

    private static void given(Check check) {
        check.sentence("3 how many it has given");
        BranchFilters x = new BranchFilters();
        x.filter(1, 7, 1);
        Check.feed(x, new int[1999], 16);
        check.same("by the one before", x.count(0, 3), 1999);
        check.same("by RISC", x.count(1, 3), 1992);
        check.same("by the one behind", x.count(2, 3), 1992);
        x.feed(1, 0, 0, 0, 0);
        check.same("by RISC", x.count(1, 3), 1994);
        x.finish();
        for (int filter = 0; filter < 4; filter++) {
            check.same("behind the finish", x.count(filter, 3), 2000);
        }
    }

    private static void placesInTheChain(Check check) {
        check.sentence("2 how many bytes it HOLDS, 3 how many it has given");
        BranchFilters x = new BranchFilters();
        x.filter(0, 2, 4);
        x.filter(1, 7, 3);
        x.filter(2, 3, 2);
        Check.feed(x, new int[16], 16);
        check.same("X86", Check.counts(x, 0), "2 4 4 12 0 0");
        check.same("RISC", Check.counts(x, 1), "7 3 6 6 0 0");
        check.same("ARM", Check.counts(x, 2), "3 2 2 4 0 0");
        check.same("NONE", Check.counts(x, 3), "0 1 0 4 0 0");
        x.begin(0, false);
        Check.feed(x, new int[16], 16);
        check.same("NONE, decoding", Check.counts(x, 3), "0 1 0 16 0 0");
        check.same("ARM, decoding", Check.counts(x, 2), "3 2 0 16 0 0");
        check.same("RISC, decoding", Check.counts(x, 1), "7 3 6 10 0 0");
        check.same("X86, decoding", Check.counts(x, 0), "2 4 4 6 0 0");
    }

    private static void putInPlaceOfAnother(Check check) {
        check.sentence("4 how many times it put a number in place of another one");
        check.countsBehind(2, "E8 01 00 00 00 E9 02 00 00 00 90 E8 11 22 33 44", "2 1 4 12 2 1");
        check.countsBehind(3, "01 00 00 EB 01 00 00 EA 01 00 00 EB 01 00 00 EB", "3 1 0 16 3 0");
        check.countsBehind(4, "01 F0 00 F8 01 00 01 F0 00 F8", "4 1 0 10 2 0");
        check.countsBehind(5, "48 00 00 01 48 00 00 00 48 00 00 05", "5 1 0 12 2 0");
        check.countsBehind(6, "40 00 00 01 41 00 00 00 7F FF FF FF", "6 1 0 12 2 0");
        check.countsBehind(7, "EF 00 00 00 97 00 00 00 E7 80 00 00 97 00 00 00", "7 1 4 12 2 0");
        BranchFilters x = new BranchFilters();
        x.filter(0, 5, 1);
        for (int i = 1; i <= 125; i++) {
            x.feed(16, 0x48000001, 0x48000001, 0x48000001, 0x48000001);
        }
        check.same("500 times", x.count(0, 4), 500);
        check.same("the others never", x.count(1, 4), 0);
    }

    private static void alsoIfThatIsTheSame(Check check) {
        check.sentence("(also if that is the same)");
        check.oneFilter(2, -5, true, "E8 01 02 03 00", "E8 01 02 03 00", 1);
        check.oneFilter(3, -8, true, "01 02 03 EB", "01 02 03 EB", 1);
        check.oneFilter(4, -4, true, "01 F2 03 FC", "01 F2 03 FC", 1);
        check.oneFilter(5, 0, true, "48 00 01 01", "48 00 01 01", 1);
        check.oneFilter(6, 0, true, "40 00 01 01", "40 00 01 01", 1);
        check.oneFilter(7, 0, true, "EF 12 34 56 00 00 00 00", "EF 12 34 56 00 00 00 00", 1);
        check.oneFilter(7, 0, true, "EF 10 34 56 00 00 00 00", "EF 10 34 56 00 00 00 00", 1);
        check.oneFilter(7, 0, true, "97 10 34 56 67 80 30 F2", "97 10 34 56 67 80 30 F2", 1);
        // A byte of DELTA is no number that stands for another, and NONE changes nothing.
        check.oneFilter(1, 0, true, "01 02 03", "01 01 01", 0);
        check.oneFilter(0, 0, true, "E8 00 00 00 00", "E8 00 00 00 00", 0);
    }

    private static void neverByTheFinish(Check check) {
        check.sentence("4 how many times it put a number in place of another one");
        String[] held = {"", "", "E8 00 00 00", "00 00 00", "00 F0 00", "48 00 00", "40 00 00", "EF 00 00 00 00 00 00"};
        for (int kind = 2; kind < 8; kind++) {
            check.oneFilter(kind, 0x100, true, held[kind], held[kind], 0);
        }
    }

    private static void maskOfX86(Check check) {
        check.sentence("5 its MASK");
        check.countsBehind(2, "", "2 1 0 0 0 0");
        check.countsBehind(2, "E8 11 22 33", "2 1 4 0 0 0");
        check.countsBehind(2, "E8 11 22 33 44", "2 1 4 1 0 1");
        check.countsBehind(2, "E8 E8 E8 E8 E8 E8 E8 00 00 00 00", "2 1 4 7 0 255");
        BranchFilters x = new BranchFilters();
        x.filter(1, 2, 1);
        x.filter(3, 2, 1);
        Check.feed(x, "E8 11 22 33 44 55 66");
        check.same("each has its own: the first", x.count(1, 5), 1);
        check.same("each has its own: the second", x.count(3, 5), 0);
    }

    private static void maskBehindTheFinish(Check check) {
        check.sentence("5 its MASK");
        BranchFilters x = Check.fed(2, 0, true, "E8 E8 E8 11 22 33 00");
        x.finish();
        check.same("behind the finish", Check.counts(x, 0), "2 1 0 7 0 23");
    }

    private static void noMaskOfTheOthers(Check check) {
        check.sentence("(0 for others than X86)");
        for (int kind = 0; kind < 8; kind++) {
            BranchFilters x = new BranchFilters();
            x.filter(0, 2, 1);
            Check.feed(x, "E8 11 22 33 44 55 66 77 88");
            check.same("MASK of X86", x.count(0, 5), 1);
            x.filter(0, kind, 1);
            check.same("MASK of kind " + kind, x.count(0, 5), 0);
            Check.feed(x, "E8 11 22 33 44 55 66 77 88");
            check.same("MASK of kind " + kind + " with bytes", x.count(0, 5), kind == 2 ? 1 : 0);
        }
    }

    private static void wrongFilters(Check check) {
        check.sentence("IllegalArgument.");
        BranchFilters x = new BranchFilters();
        x.feed(3, 0, 0, 0, 0);
        for (int wrong : new int[] {-1, 4, 5, LOW, HIGH}) {
            for (int what = -1; what <= 6; what++) {
                int asked = what;
                check.illegalArgument("count(" + wrong + ", " + what + ")", () -> x.count(wrong, asked));
            }
        }
        check.same("feed goes on", x.feed(1, 0, 0, 0, 0), 4);
    }

    private static void wrongWhats(Check check) {
        check.sentence("IllegalArgument.");
        BranchFilters x = new BranchFilters();
        x.feed(3, 0, 0, 0, 0);
        for (int wrong : new int[] {-1, 6, 7, LOW, HIGH}) {
            for (int filter = 0; filter < 4; filter++) {
                int asked = filter;
                check.illegalArgument("count(" + filter + ", " + wrong + ")", () -> x.count(asked, wrong));
            }
        }
        check.same("feed goes on", x.feed(1, 0, 0, 0, 0), 4);
    }
}
