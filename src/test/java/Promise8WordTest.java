/** Promise 8: word is four bytes of the output, the lowest first, and IndexOutOfBounds where one is missing. */
public final class Promise8WordTest {
    private static final int LOW = Integer.MIN_VALUE;
    private static final int HIGH = Integer.MAX_VALUE;

    public static void main(String[] args) {
        Check check = new Check();
        lowestFirst(check);
        fromAnyByteOn(check);
        notAllFourAreThere(check);
        farFromTheOutput(check);
        heldBytesAreNotThere(check);
        behindABeginning(check);
        atTheLimit(check);
        check.end();
    }

    private static void lowestFirst(Check check) {
        check.sentence("The four bytes of THE OUTPUT from one on, as a number, the lowest first.");
        int[] words = {0, -1, 1, LOW, HIGH, 0x84838281, 0x01020304, 0xFF, 0xFF00, 0xFF0000, 0xFF000000};
        BranchFilters x = new BranchFilters();
        for (int word : words) {
            x.feed(4, Integer.reverseBytes(word), 0, 0, 0);
        }
        for (int i = 0; i < words.length; i++) {
            check.same("word(" + 4 * i + ")", x.word(4 * i), words[i]);
        }
    }

    private static void fromAnyByteOn(Check check) {
        check.sentence("The four bytes of THE OUTPUT from one on");
        BranchFilters x = new BranchFilters();
        x.feed(7, 0x81828384, 0x7F00FF00, 0, 0);
        check.same("word(0)", x.word(0), 0x84838281);
        check.same("word(1)", x.word(1), 0x7F848382);
        check.same("word(2)", x.word(2), 0x007F8483);
        check.same("word(3)", x.word(3), 0xFF007F84);
    }

    private static void notAllFourAreThere(Check check) {
        check.sentence("IndexOutOfBounds: not all four are there.");
        for (int size = 0; size <= 40; size++) {
            BranchFilters x = new BranchFilters();
            Check.feed(x, new int[size], 16);
            for (int k = -5; k <= size + 5; k++) {
                int from = k;
                if (k >= 0 && k + 4 <= size) {
                    check.same("word(" + k + ") of " + size, x.word(k), 0);
                } else {
                    check.indexOutOfBounds("word(" + k + ") of " + size, () -> x.word(from));
                }
            }
            check.same("none of them changed a thing", x.finish(), size);
        }
    }

    private static void farFromTheOutput(Check check) {
        check.sentence("IndexOutOfBounds: not all four are there.");
        BranchFilters x = new BranchFilters();
        x.feed(16, 1, 2, 3, 4);
        for (int k : new int[] {LOW, LOW + 1, LOW + 4, -2000, 1996, 1997, 2000, HIGH, HIGH - 1, HIGH - 2, HIGH - 3, HIGH - 4}) {
            check.indexOutOfBounds("word(" + k + ")", () -> x.word(k));
        }
    }

    private static void heldBytesAreNotThere(Check check) {
        check.sentence("IndexOutOfBounds: not all four are there.");
        BranchFilters x = new BranchFilters();
        x.filter(0, 2, 1);
        x.feed(7, 0x01020304, 0x05060700, 0, 0);
        check.indexOutOfBounds("word(0) of three given", () -> x.word(0));
        x.feed(1, 0x08000000, 0, 0, 0);
        check.same("word(0) of four given", x.word(0), 0x04030201);
        check.indexOutOfBounds("word(1) of four given", () -> x.word(1));
        x.finish();
        check.same("word(4)", x.word(4), 0x08070605);
        check.indexOutOfBounds("word(5)", () -> x.word(5));
    }

    private static void behindABeginning(Check check) {
        check.sentence("IndexOutOfBounds: not all four are there.");
        BranchFilters x = new BranchFilters();
        x.feed(16, 1, 2, 3, 4);
        x.begin(0, true);
        check.indexOutOfBounds("word(0) behind begin", () -> x.word(0));
        x.feed(16, 1, 2, 3, 4);
        x.filter(0, 0, 1);
        check.indexOutOfBounds("word(0) behind filter", () -> x.word(0));
    }

    private static void atTheLimit(Check check) {
        check.sentence("IndexOutOfBounds: not all four are there.");
        BranchFilters x = new BranchFilters();
        for (int i = 0; i < 125; i++) {
            x.feed(16, 0x01020304, 0x05060708, 0x090A0B0C, 0x0D0E0F10);
        }
        check.same("word(1996)", x.word(1996), 0x100F0E0D);
        for (int k : new int[] {1997, 1998, 1999, 2000, 2001}) {
            check.indexOutOfBounds("word(" + k + ")", () -> x.word(k));
        }
    }
}
