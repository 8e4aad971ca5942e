/** Promise 5: finish gives what is held, filter by filter, once. */
public final class Promise5FinishTest {
    public static void main(String[] args) {
        Check check = new Check();
        givesWhatIsHeldAsItIs(check);
        theNextTakesItInFirst(check);
        theOtherWayRound(check);
        onlyOnce(check);
        check.end();
    }

    private static void givesWhatIsHeldAsItIs(Check check) {
        String[] held = {"", "", "E8 10 00 00", "10 00 00", "00 F0 00", "48 00 00", "40 00 00", "EF 00 00 00 01 02 03"};
        for (int kind = 2; kind < 8; kind++) {
            for (int way = 0; way < 2; way++) {
                BranchFilters x = new BranchFilters();
                x.filter(0, kind, 1);
                x.begin(64, way == 0);
                int many = Check.bytes(held[kind]).length;
                check.same("kind " + kind + ": feed", Check.feed(x, Check.bytes(held[kind]), 16), 0);
                check.same("kind " + kind + ": counts", Check.counts(x, 0), kind + " 1 " + many + " 0 0 0");
                check.same("kind " + kind + ": finish", x.finish(), many);
                check.same("kind " + kind + ": bytes", Check.hex(Check.outputs(x)), held[kind]);
                check.same("kind " + kind + ": counts behind", Check.counts(x, 0), kind + " 1 0 " + many + " 0 0");
            }
        }
    }

    private static void theNextTakesItInFirst(Check check) {
        BranchFilters x = new BranchFilters();
        x.filter(0, 7, 1);
        x.filter(1, 3, 1);
        x.filter(2, 1, 1);
        check.same("feed", Check.feed(x, Check.bytes("10 00 00 EB 01 02 03"), 16), 0);
        check.same("finish", x.finish(), 7);
        check.same("ARM sees what RISC held", Check.hex(Check.outputs(x)), "12 EE 00 EB 16 01 01");
        check.same("RISC", Check.counts(x, 0), "7 1 0 7 0 0");
        check.same("ARM", Check.counts(x, 1), "3 1 0 7 1 0");
        check.same("DELTA", Check.counts(x, 2), "1 1 0 7 0 0");
        check.same("NONE", Check.counts(x, 3), "0 1 0 7 0 0");
    }

    private static void theOtherWayRound(Check check) {
        BranchFilters x = new BranchFilters();
        x.filter(3, 7, 1);
        x.filter(1, 3, 1);
        x.begin(0, false);
        check.same("feed", Check.feed(x, Check.bytes("12 00 00 EB 01 02 03"), 16), 0);
        check.same("finish", x.finish(), 7);
        check.same("ARM sees what RISC held", Check.hex(Check.outputs(x)), "10 00 00 EB 01 02 03");
        check.same("ARM", Check.counts(x, 1), "3 1 0 7 1 0");
        x.begin(0, true);
        check.same("feed", Check.feed(x, Check.bytes("10 00 00 EB 01 02 03"), 16), 0);
        check.same("ARM before the finish", Check.counts(x, 1), "3 1 3 4 1 0");
        check.same("RISC before the finish", Check.counts(x, 3), "7 1 4 0 0 0");
        check.same("finish", x.finish(), 7);
        check.same("encoding", Check.hex(Check.outputs(x)), "12 00 00 EB 01 02 03");
    }

    private static void onlyOnce(Check check) {
        BranchFilters x = new BranchFilters();
        x.filter(0, 3, 1);
        x.feed(3, 0x01020300, 0, 0, 0);
        check.same("finish", x.finish(), 3);
        for (int i = 0; i < 3; i++) {
            check.illegalState("finish again", () -> x.finish());
            check.same("output", Check.hex(Check.outputs(x)), "01 02 03");
            check.same("counts", Check.counts(x, 0), "3 1 0 3 0 0");
        }
        x.begin(0, true);
        check.same("finish behind begin", x.finish(), 0);
        x.filter(0, 0, 1);
        check.same("finish behind filter", x.finish(), 0);
    }
}
