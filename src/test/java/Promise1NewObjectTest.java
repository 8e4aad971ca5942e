/** Promise 1: a chain of NONE, encoding, START 0, an empty output. */
public final class Promise1NewObjectTest {
    public static void main(String[] args) {
        Check check = new Check();
        emptyAndOfKindNone(check);
        bytesGoThroughAsTheyAre(check);
        startIsZeroAndTheWayIsEncoding(check);
        objectsAreApart(check);
        check.end();
    }

    private static void emptyAndOfKindNone(Check check) {
        BranchFilters x = new BranchFilters();
        check.same("output(0)", x.output(0), BranchFilters.NONE);
        check.indexOutOfBounds("word(0)", () -> x.word(0));
        for (int filter = 0; filter < 4; filter++) {
            check.same("counts of " + filter, Check.counts(x, filter), "0 1 0 0 0 0");
        }
        check.same("finish()", x.finish(), 0);
    }

    private static void bytesGoThroughAsTheyAre(Check check) {
        BranchFilters x = new BranchFilters();
        String in = "E8 10 00 00 00 EB 00 F0 00 F8 48 00 00 01 40 00";
        check.same("feed", Check.feed(x, Check.bytes(in), 16), 16);
        check.same("NONE", Check.hex(Check.outputs(x)), in);
        for (int filter = 0; filter < 4; filter++) {
            check.same("counts of " + filter, Check.counts(x, filter), "0 1 0 16 0 0");
        }
    }

    // filter keeps START and the way, so these two show what they were in the new object.
    private static void startIsZeroAndTheWayIsEncoding(Check check) {
        BranchFilters x = new BranchFilters();
        x.filter(0, 3, 1);
        Check.feed(x, Check.bytes("10 00 00 EB"), 16);
        check.same("ARM at first", Check.hex(Check.outputs(x)), "12 00 00 EB");
    }

    private static void objectsAreApart(Check check) {
        BranchFilters x = new BranchFilters();
        BranchFilters y = new BranchFilters();
        x.filter(0, 1, 1);
        x.feed(4, 0x01020304, 0, 0, 0);
        check.same("the other's kind", y.count(0, 0), 0);
        check.same("the other's output", y.output(0), BranchFilters.NONE);
    }
}
