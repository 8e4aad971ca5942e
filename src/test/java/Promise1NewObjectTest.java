/** Promise 1: a chain of NONE, encoding, START 0, an empty output. */
public final class Promise1NewObjectTest {
    public static void main(String[] args) {
        Check check = new Check();
        chainOfNone(check);
        bytesGoThroughAsTheyAre(check);
        wayIsEncoding(check);
        startIsZero(check);
        outputIsEmpty(check);
        nothingCameYet(check);
        objectsAreApart(check);
        check.end();
    }

    private static void chainOfNone(Check check) {
        check.sentence("A CHAIN of NONE");
        BranchFilters x = new BranchFilters();
        for (int filter = 0; filter < 4; filter++) {
            check.same("counts of " + filter, Check.counts(x, filter), "0 1 0 0 0 0");
        }
    }

    private static void bytesGoThroughAsTheyAre(Check check) {
        check.sentence("A CHAIN of NONE");
        BranchFilters x = new BranchFilters();
        String in = "E8 10 00 00 00 EB 00 F0 00 F8 48 00 00 01 40 00";
        check.same("feed", Check.feed(x, in), 16);
        check.same("NONE", Check.output(x), in);
        for (int filter = 0; filter < 4; filter++) {
            check.same("counts of " + filter, Check.counts(x, filter), "0 1 0 16 0 0");
        }
    }

    // filter keeps START and the way, so it shows what they were in the new object.
    private static void wayIsEncoding(Check check) {
        check.sentence("ENCODING");
        BranchFilters x = new BranchFilters();
        x.filter(0, 1, 1);
        Check.feed(x, "01 03 06");
        check.same("DELTA at first", Check.output(x), "01 02 03");
        x = new BranchFilters();
        x.filter(0, 7, 1);
        x.filter(3, 3, 1);
        Check.feed(x, "10 00 00 EB 00 00 00 00");
        check.same("FILTER 0 first", x.count(0, 2), 6);
        check.same("FILTER 3 last", x.count(3, 2), 2);
    }

    private static void startIsZero(Check check) {
        check.sentence("START 0");
        String[] in = {"E8 00 00 00 00", "00 00 00 EB", "00 F0 00 F8", "48 00 00 01", "40 00 00 00", "97 00 00 00 E7 80 00 00"};
        String[] due = {"E8 05 00 00 00", "02 00 00 EB", "00 F0 02 F8", "48 00 00 01", "40 00 00 00", "97 00 00 00 E7 80 00 00"};
        for (int kind = 2; kind < 8; kind++) {
            BranchFilters x = new BranchFilters();
            x.filter(0, kind, 1);
            Check.feed(x, in[kind - 2]);
            check.same("kind " + kind + " at first", Check.output(x), due[kind - 2]);
        }
    }

    private static void outputIsEmpty(Check check) {
        check.sentence("an empty OUTPUT");
        BranchFilters x = new BranchFilters();
        for (int k : new int[] {0, 1, -1, 1999, 2000}) {
            check.same("output(" + k + ")", x.output(k), BranchFilters.NONE);
            check.indexOutOfBounds("word(" + k + ")", () -> x.word(k));
        }
        check.same("feed(0)", x.feed(0, 0, 0, 0, 0), 0);
        check.same("finish()", x.finish(), 0);
    }

    private static void nothingCameYet(Check check) {
        check.sentence("an empty OUTPUT");
        BranchFilters x = new BranchFilters();
        for (int i = 1; i <= 125; i++) {
            check.same("feed " + i, x.feed(16, 0, 0, 0, 0), 16 * i);
        }
    }

    private static void objectsAreApart(Check check) {
        check.sentence("A CHAIN of NONE, ENCODING, START 0, an empty OUTPUT.");
        BranchFilters x = new BranchFilters();
        BranchFilters y = new BranchFilters();
        x.filter(0, 1, 2);
        x.begin(7, false);
        x.feed(4, 0x01020304, 0, 0, 0);
        check.same("the other's counts", Check.counts(y, 0), "0 1 0 0 0 0");
        check.same("the other's output", y.output(0), BranchFilters.NONE);
        y.filter(0, 3, 1);
        Check.feed(y, "10 00 00 EB");
        check.same("the other's START and way", Check.output(y), "12 00 00 EB");
    }
}
