/** Promise 4: feed takes up to sixteen bytes, the highest first, and refuses what is too many or too late. */
public final class Promise4FeedTest {
    public static void main(String[] args) {
        Check check = new Check();
        takesAsManyAsTold(check);
        answersWhatCameOut(check);
        wrongManyChangesNothing(check);
        upToTwoThousand(check);
        notBehindTheFinish(check);
        throughTheChainInOrder(check);
        check.end();
    }

    private static void takesAsManyAsTold(Check check) {
        String all = "80 01 FF 03 04 85 06 07 08 09 8A 0B 0C 0D 0E 8F";
        for (int many = 0; many <= 16; many++) {
            BranchFilters x = new BranchFilters();
            check.same("feed(" + many + ")", x.feed(many, 0x8001FF03, 0x04850607, 0x08098A0B, 0x0C0D0E8F), many);
            check.same("bytes of " + many, Check.hex(Check.outputs(x)), many == 0 ? "" : all.substring(0, 3 * many - 1));
        }
    }

    private static void answersWhatCameOut(Check check) {
        int[] needed = {1, 1, 5, 4, 4, 4, 4, 8};
        for (int kind = 0; kind < 8; kind++) {
            BranchFilters x = new BranchFilters();
            x.filter(0, kind, 1);
            int step = kind == 4 || kind == 7 ? 2 : kind == 3 || kind == 5 || kind == 6 ? 4 : 1;
            for (int came = 1; came <= 40; came++) {
                int steps = came < needed[kind] ? 0 : (came - needed[kind]) / step + 1;
                check.same("kind " + kind + ", byte " + came, x.feed(1, 0, 0, 0, 0), steps * step);
                check.same("kind " + kind + ", feed of none", x.feed(0, -1, -1, -1, -1), steps * step);
                check.same("kind " + kind + ", held of " + came, x.count(0, 2), came - steps * step);
            }
        }
    }

    private static void wrongManyChangesNothing(Check check) {
        BranchFilters x = new BranchFilters();
        x.filter(0, 2, 1);
        x.feed(7, 0xE8E8E811, 0x22330000, 0, 0);
        for (int many : new int[] {-1, 17, 2001, Integer.MIN_VALUE, Integer.MAX_VALUE}) {
            check.illegalArgument("feed(" + many + ")", () -> x.feed(many, 1, 2, 3, 4));
            check.same("counts", Check.counts(x, 0), "2 1 4 3 0 23");
        }
        x.finish();
        check.same("output", Check.hex(Check.outputs(x)), "E8 E8 E8 11 22 33 00");
        check.illegalArgument("feed(17) behind the finish", () -> x.feed(17, 1, 2, 3, 4));
        check.illegalArgument("feed(-1) behind the finish", () -> x.feed(-1, 1, 2, 3, 4));
    }

    private static void upToTwoThousand(Check check) {
        BranchFilters x = new BranchFilters();
        x.filter(1, 7, 1);
        x.filter(3, 2, 1);
        for (int i = 0; i < 124; i++) {
            x.feed(16, i, i, i, i);
        }
        x.feed(15, 0, 0, 0, 0);
        String before = Check.counts(x, 1) + Check.counts(x, 3);
        for (int many = 2; many <= 16; many++) {
            int tooMany = many;
            check.illegalState("feed(" + many + ") behind 1999", () -> x.feed(tooMany, 0, 0, 0, 0));
        }
        check.illegalArgument("feed(17) behind 1999", () -> x.feed(17, 0, 0, 0, 0));
        check.same("what throws changes nothing", Check.counts(x, 1) + Check.counts(x, 3), before);
        x.feed(1, 0xAB000000, 0, 0, 0);
        check.illegalState("feed(1) behind 2000", () -> x.feed(1, 0, 0, 0, 0));
        check.same("feed(0) behind 2000", x.feed(0, 0, 0, 0, 0), 2000 - x.count(1, 2) - x.count(3, 2));
        check.same("finish", x.finish(), 2000);
        check.same("the last byte", x.output(1999), 0xAB);
        check.same("none behind it", x.output(2000), BranchFilters.NONE);
        check.illegalState("feed(0) behind the finish", () -> x.feed(0, 0, 0, 0, 0));
    }

    private static void notBehindTheFinish(Check check) {
        BranchFilters x = new BranchFilters();
        x.finish();
        check.illegalState("feed(0)", () -> x.feed(0, 0, 0, 0, 0));
        check.illegalState("feed(1)", () -> x.feed(1, 0, 0, 0, 0));
        check.illegalState("feed(16)", () -> x.feed(16, 0, 0, 0, 0));
        check.same("output(0)", x.output(0), BranchFilters.NONE);
        check.same("given", x.count(0, 3), 0);
    }

    // ARM then DELTA is not DELTA then ARM; decoding goes the other way.
    private static void throughTheChainInOrder(Check check) {
        BranchFilters x = new BranchFilters();
        x.filter(0, 3, 1);
        x.filter(3, 1, 1);
        Check.feed(x, Check.bytes("10 20 30 EB"), 16);
        check.same("ARM, DELTA", Check.hex(Check.outputs(x)), "12 0E 10 BB");
        x.begin(0, false);
        Check.feed(x, Check.bytes("12 0E 10 BB"), 16);
        check.same("and back", Check.hex(Check.outputs(x)), "10 20 30 EB");
        x.filter(0, 1, 1);
        x.filter(3, 3, 1);
        x.begin(0, true);
        Check.feed(x, Check.bytes("10 20 30 1B"), 16);
        check.same("DELTA, ARM", Check.hex(Check.outputs(x)), "12 10 10 EB");
        x.begin(0, false);
        Check.feed(x, Check.bytes("12 10 10 EB"), 16);
        check.same("and back", Check.hex(Check.outputs(x)), "10 20 30 1B");
        x.filter(0, 0, 1);
        x.filter(1, 1, 1);
        x.filter(2, 3, 1);
        x.filter(3, 0, 1);
        x.begin(0, true);
        Check.feed(x, Check.bytes("10 20 30 1B"), 16);
        check.same("DELTA, ARM in the middle", Check.hex(Check.outputs(x)), "12 10 10 EB");
    }
}
