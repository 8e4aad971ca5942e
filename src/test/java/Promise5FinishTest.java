/** Promise 5: finish gives what is held, filter by filter, once. */
public final class Promise5FinishTest {
    public static void main(String[] args) {
        Check check = new Check();
        answersWhatTheOutputHas(check);
        ofNothing(check);
        ofTwoThousand(check);
        nextTakesItInFirst(check);
        theOtherWayRound(check);
        onlyOnce(check);
        onceMoreBehindABeginning(check);
        refusedFeedsAreNoFinish(check);
        check.end();
    }

    private static void answersWhatTheOutputHas(Check check) {
        check.sentence("The FINISH: how many bytes THE OUTPUT has.");
        for (int many = 0; many <= 40; many++) {
            for (int kind = 0; kind < 8; kind++) {
                BranchFilters x = new BranchFilters();
                x.filter(1, kind, 1);
                x.filter(2, 7 - kind, 1);
                Check.feed(x, new int[many], 16);
                check.same("finish of " + many + ", kind " + kind, x.finish(), many);
                check.same("none behind", x.output(many), BranchFilters.NONE);
                check.same("the last one", x.output(many - 1), many == 0 ? BranchFilters.NONE : 0);
            }
        }
    }

    private static void ofNothing(Check check) {
        check.sentence("The FINISH: how many bytes THE OUTPUT has.");
        BranchFilters x = new BranchFilters();
        check.same("finish", x.finish(), 0);
        check.same("output(0)", x.output(0), BranchFilters.NONE);
        check.indexOutOfBounds("word(0)", () -> x.word(0));
        check.same("counts", Check.counts(x, 0), "0 1 0 0 0 0");
    }

    private static void ofTwoThousand(Check check) {
        check.sentence("The FINISH: how many bytes THE OUTPUT has.");
        BranchFilters x = new BranchFilters();
        for (int filter = 0; filter < 4; filter++) {
            x.filter(filter, 7, 1);
        }
        Check.feed(x, new int[2000], 16);
        check.same("finish", x.finish(), 2000);
        for (int filter = 0; filter < 4; filter++) {
            check.same("counts of " + filter, Check.counts(x, filter), "7 1 0 2000 0 0");
        }
    }

    private static void nextTakesItInFirst(Check check) {
        check.sentence("(the next one first takes it in as bytes that came, then gives what it HOLDS)");
        BranchFilters x = new BranchFilters();
        x.filter(0, 7, 1);
        x.filter(1, 3, 1);
        x.filter(2, 1, 1);
        check.same("feed", Check.feed(x, "10 00 00 EB 01 02 03"), 0);
        check.same("finish", x.finish(), 7);
        check.same("ARM sees what RISC held", Check.output(x), "12 EE 00 EB 16 01 01");
        check.same("RISC", Check.counts(x, 0), "7 1 0 7 0 0");
        check.same("ARM", Check.counts(x, 1), "3 1 0 7 1 0");
        check.same("DELTA", Check.counts(x, 2), "1 1 0 7 0 0");
        check.same("NONE", Check.counts(x, 3), "0 1 0 7 0 0");
    }

    private static void theOtherWayRound(Check check) {
        check.sentence("At the FINISH each, in the order in which bytes go");
        BranchFilters x = new BranchFilters();
        x.filter(3, 7, 1);
        x.filter(1, 3, 1);
        x.begin(0, false);
        check.same("feed", Check.feed(x, "12 00 00 EB 01 02 03"), 0);
        check.same("finish", x.finish(), 7);
        check.same("ARM sees what RISC held", Check.output(x), "10 00 00 EB 01 02 03");
        check.same("ARM", Check.counts(x, 1), "3 1 0 7 1 0");
        x.begin(0, true);
        check.same("feed", Check.feed(x, "10 00 00 EB 01 02 03"), 0);
        check.same("ARM before the finish", Check.counts(x, 1), "3 1 3 4 1 0");
        check.same("RISC before the finish", Check.counts(x, 3), "7 1 4 0 0 0");
        check.same("finish", x.finish(), 7);
        check.same("encoding", Check.output(x), "12 00 00 EB 01 02 03");
    }

    private static void onlyOnce(Check check) {
        check.sentence("IllegalState: there was one since the beginning.");
        BranchFilters x = new BranchFilters();
        x.filter(0, 3, 1);
        x.feed(3, 0x01020300, 0, 0, 0);
        check.same("finish", x.finish(), 3);
        for (int i = 0; i < 3; i++) {
            check.illegalState("finish again", () -> x.finish());
            check.same("output", Check.output(x), "01 02 03");
            check.same("counts", Check.counts(x, 0), "3 1 0 3 0 0");
        }
        BranchFilters empty = new BranchFilters();
        check.same("finish of nothing", empty.finish(), 0);
        check.illegalState("finish of nothing again", () -> empty.finish());
    }

    private static void onceMoreBehindABeginning(Check check) {
        check.sentence("IllegalState: there was one since the beginning.");
        BranchFilters x = new BranchFilters();
        for (int i = 0; i < 3; i++) {
            check.same("finish", x.finish(), 0);
            check.illegalState("finish again", () -> x.finish());
            x.begin(i, i == 1);
            check.same("finish behind begin", x.finish(), 0);
            check.illegalState("finish again", () -> x.finish());
            x.filter(i, i, 1);
        }
        x.finish();
        check.illegalArgument("a filter that is refused", () -> x.filter(4, 0, 1));
        check.illegalState("is no beginning", () -> x.finish());
    }

    private static void refusedFeedsAreNoFinish(Check check) {
        check.sentence("What throws changes nothing.");
        BranchFilters x = new BranchFilters();
        x.feed(2, 0x01020000, 0, 0, 0);
        check.illegalArgument("feed(17)", () -> x.feed(17, 0, 0, 0, 0));
        check.same("finish", x.finish(), 2);
    }
}
