/** Promise 4: feed takes up to sixteen bytes, the highest first, and refuses what is too many or too late. */
public final class Promise4FeedTest {
    private static final int LOW = Integer.MIN_VALUE;
    private static final int HIGH = Integer.MAX_VALUE;

    public static void main(String[] args) {
        Check check = new Check();
        asManyAsTold(check);
        bytesOfEveryValue(check);
        onePieceBehindTheOther(check);
        answersWhatTheOutputHas(check);
        wrongMany(check);
        wrongManyBeforeTheOthers(check);
        upToTwoThousand(check);
        noneBehindTwoThousand(check);
        heldBytesCount(check);
        refusedBytesDoNotCount(check);
        notBehindTheFinish(check);
        check.end();
    }

    private static BranchFilters fed(int many) {
        BranchFilters x = new BranchFilters();
        Check.feed(x, new int[many], 16);
        return x;
    }

    private static void asManyAsTold(Check check) {
        check.sentence("Up to sixteen bytes come in, four in each number, the highest first, many of them");
        String all = "80 01 FF 03 04 85 06 07 08 09 8A 0B 0C 0D 0E 8F";
        for (int many = 0; many <= 16; many++) {
            BranchFilters x = new BranchFilters();
            check.same("feed(" + many + ")", x.feed(many, 0x8001FF03, 0x04850607, 0x08098A0B, 0x0C0D0E8F), many);
            check.same("bytes of " + many, Check.output(x), many == 0 ? "" : all.substring(0, 3 * many - 1));
        }
    }

    private static void bytesOfEveryValue(Check check) {
        check.sentence("four in each number, the highest first");
        BranchFilters x = new BranchFilters();
        x.feed(16, -1, LOW, HIGH, 0);
        check.same("bytes", Check.output(x), "FF FF FF FF 80 00 00 00 7F FF FF FF 00 00 00 00");
        for (int b = 0; b < 256; b++) {
            BranchFilters y = new BranchFilters();
            y.feed(16, b << 24, b << 16, b << 8, b);
            String due = String.format("%02X 00 00 00 00 %<02X 00 00 00 00 %<02X 00 00 00 00 %<02X", b);
            check.same("byte " + b, Check.output(y), due);
        }
    }

    private static void onePieceBehindTheOther(Check check) {
        check.sentence("Up to sixteen bytes come in");
        BranchFilters x = new BranchFilters();
        check.same("the first", x.feed(1, 0x11000000, -1, -1, -1), 1);
        check.same("none", x.feed(0, -1, -1, -1, -1), 1);
        check.same("sixteen", x.feed(16, 0x12131415, 0x16171819, 0x1A1B1C1D, 0x1E1F2021), 17);
        check.same("five", x.feed(5, 0x22232425, 0x26FFFFFF, -1, -1), 22);
        check.same("bytes", Check.output(x), "11 12 13 14 15 16 17 18 19 1A 1B 1C 1D 1E 1F 20 21 22 23 24 25 26");
    }

    private static void answersWhatTheOutputHas(Check check) {
        check.sentence("how many bytes THE OUTPUT has");
        BranchFilters x = new BranchFilters();
        x.filter(1, 7, 1);
        int[] due = {0, 0, 0, 0, 0, 0, 0, 2, 2, 4, 4, 6, 6, 8};
        for (int i = 0; i < due.length; i++) {
            check.same("byte " + i, x.feed(1, 0, 0, 0, 0), due[i]);
            check.same("none behind byte " + i, x.feed(0, 0, 0, 0, 0), due[i]);
        }
        x.filter(3, 2, 1);
        check.same("sixteen", x.feed(16, 0, 0, 0, 0), 6);
        check.same("sixteen more", x.feed(16, 0, 0, 0, 0), 22);
        check.same("behind a call that gives five", Check.feed(x, "01 00 E8 00 00 00 00 01 02 03"), 32);
    }

    private static void wrongMany(Check check) {
        check.sentence("IllegalArgument: many is not 0 .. 16.");
        BranchFilters x = new BranchFilters();
        x.filter(0, 2, 1);
        x.feed(7, 0xE8E8E811, 0x22330000, 0, 0);
        for (int many : new int[] {-1, -16, 17, 18, 32, 2000, 2001, LOW, HIGH}) {
            check.illegalArgument("feed(" + many + ")", () -> x.feed(many, 1, 2, 3, 4));
            check.same("behind feed(" + many + ")", Check.counts(x, 0), "2 1 4 3 0 23");
        }
        check.same("feed(0)", x.feed(0, 1, 2, 3, 4), 3);
        check.same("finish", x.finish(), 7);
        check.same("output", Check.output(x), "E8 E8 E8 11 22 33 00");
    }

    // The document tells no order; a number that is none is no state, so it is looked at first.
    private static void wrongManyBeforeTheOthers(Check check) {
        check.sentence("IllegalArgument: many is not 0 .. 16.");
        BranchFilters full = fed(2000);
        BranchFilters finished = fed(3);
        finished.finish();
        for (int many : new int[] {-1, 17, LOW, HIGH}) {
            check.illegalArgument("feed(" + many + ") behind 2000", () -> full.feed(many, 0, 0, 0, 0));
            check.illegalArgument("feed(" + many + ") behind the finish", () -> finished.feed(many, 0, 0, 0, 0));
        }
    }

    private static void upToTwoThousand(Check check) {
        check.sentence("IllegalState: since the beginning more than 2000 would have come in");
        for (int before = 1984; before <= 2000; before++) {
            for (int many = 0; many <= 16; many++) {
                BranchFilters x = fed(before);
                int more = many;
                String what = "feed(" + many + ") behind " + before;
                if (before + many > 2000) {
                    check.illegalState(what, () -> x.feed(more, 0, 0, 0, 0));
                    check.same(what + ", given", x.count(3, 3), before);
                } else {
                    check.same(what, x.feed(many, 0, 0, 0, 0), before + many);
                }
            }
        }
    }

    private static void noneBehindTwoThousand(Check check) {
        check.sentence("IllegalState: since the beginning more than 2000 would have come in");
        BranchFilters x = fed(2000);
        for (int i = 0; i < 3; i++) {
            check.same("feed(0) behind 2000", x.feed(0, -1, -1, -1, -1), 2000);
        }
        check.illegalState("feed(1) behind 2000", () -> x.feed(1, -1, -1, -1, -1));
        check.same("finish", x.finish(), 2000);
        check.same("output(1999)", x.output(1999), 0);
        check.same("output(2000)", x.output(2000), BranchFilters.NONE);
    }

    // It is what came in that counts, not what came out.
    private static void heldBytesCount(Check check) {
        check.sentence("IllegalState: since the beginning more than 2000 would have come in");
        BranchFilters x = new BranchFilters();
        for (int filter = 0; filter < 4; filter++) {
            x.filter(filter, 7, 1);
        }
        Check.feed(x, new int[1999], 16);
        check.same("given by the last", x.count(3, 3), 1999 - 7 - 6 - 6 - 6);
        check.illegalState("feed(2) behind 1999", () -> x.feed(2, 0, 0, 0, 0));
        check.same("feed(1) behind 1999", x.feed(1, 0xAB000000, 0, 0, 0), 2000 - 4 * 6);
        check.illegalState("feed(1) behind 2000", () -> x.feed(1, 0, 0, 0, 0));
        check.same("finish", x.finish(), 2000);
        check.same("the last byte", x.output(1999), 0xAB);
    }

    private static void refusedBytesDoNotCount(Check check) {
        check.sentence("What throws changes nothing.");
        BranchFilters x = fed(1990);
        for (int i = 0; i < 5; i++) {
            check.illegalState("feed(11) behind 1990", () -> x.feed(11, 0, 0, 0, 0));
            check.illegalArgument("feed(17) behind 1990", () -> x.feed(17, 0, 0, 0, 0));
            check.illegalArgument("feed(-1) behind 1990", () -> x.feed(-1, 0, 0, 0, 0));
        }
        check.same("feed(10) behind 1990", x.feed(10, -1, -1, -1, -1), 2000);
        check.illegalState("feed(1) behind 2000", () -> x.feed(1, 0, 0, 0, 0));
        check.same("output(1989)", x.output(1989), 0);
        check.same("output(1990)", x.output(1990), 0xFF);
    }

    private static void notBehindTheFinish(Check check) {
        check.sentence("or there was the FINISH");
        BranchFilters x = new BranchFilters();
        x.filter(0, 3, 1);
        Check.feed(x, "01 02 03 04 05");
        x.finish();
        for (int many = 0; many <= 16; many++) {
            int more = many;
            check.illegalState("feed(" + many + ")", () -> x.feed(more, 0, 0, 0, 0));
            check.same("counts", Check.counts(x, 0), "3 1 0 5 0 0");
        }
        check.same("output", Check.output(x), "01 02 03 04 05");
        BranchFilters empty = new BranchFilters();
        empty.finish();
        check.illegalState("feed(0) where nothing came", () -> empty.feed(0, 0, 0, 0, 0));
        check.illegalState("feed(16) where nothing came", () -> empty.feed(16, 0, 0, 0, 0));
        check.same("output(0)", empty.output(0), BranchFilters.NONE);
        empty.begin(0, true);
        check.same("feed behind begin", empty.feed(16, 0, 0, 0, 0), 16);
    }
}
