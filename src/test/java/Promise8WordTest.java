/** Promise 8: word is four bytes of the output, the lowest first, and IndexOutOfBounds where one is missing. */
public final class Promise8WordTest {
    public static void main(String[] args) {
        Check check = new Check();
        BranchFilters x = new BranchFilters();
        for (int many = 0; many < 4; many++) {
            check.indexOutOfBounds("word(0) of " + many, () -> x.word(0));
            check.indexOutOfBounds("word(-1) of " + many, () -> x.word(-1));
            x.feed(1, (0x81 + many) << 24, 0, 0, 0);
        }
        check.same("word(0)", x.word(0), 0x84838281);
        x.feed(3, 0x7F00FF00, 0, 0, 0);
        check.same("word(0)", x.word(0), 0x84838281);
        check.same("word(1)", x.word(1), 0x7F848382);
        check.same("word(2)", x.word(2), 0x007F8483);
        check.same("word(3)", x.word(3), 0xFF007F84);
        int[] wrong = {-1, -2, -4, 4, 5, 6, 7, 8, 1996, 2000, Integer.MIN_VALUE,
            Integer.MAX_VALUE, Integer.MAX_VALUE - 1, Integer.MAX_VALUE - 3};
        for (int k : wrong) {
            check.indexOutOfBounds("word(" + k + ")", () -> x.word(k));
        }
        x.begin(0, true);
        check.indexOutOfBounds("word(0) behind begin", () -> x.word(0));
        heldBytesAreNotThere(check);
        atTheLimit(check);
        check.end();
    }

    private static void heldBytesAreNotThere(Check check) {
        BranchFilters x = new BranchFilters();
        x.filter(0, 2, 1);
        x.feed(7, 0x01020304, 0x05060700, 0, 0);
        check.indexOutOfBounds("word(0) of three given", () -> x.word(0));
        x.finish();
        check.same("word(3)", x.word(3), 0x07060504);
    }

    private static void atTheLimit(Check check) {
        BranchFilters x = new BranchFilters();
        for (int i = 0; i < 125; i++) {
            x.feed(16, 0x01020304, 0x05060708, 0x090A0B0C, 0x0D0E0F10);
        }
        check.same("word(1996)", x.word(1996), 0x100F0E0D);
        check.indexOutOfBounds("word(1997)", () -> x.word(1997));
    }
}
