/** The kind X86: its MASK and LAST, with bytes worked out by hand from the document. */
public final class X86Test {
    public static void main(String[] args) {
        Check check = new Check();
        callsAndJumps(check);
        startsAtAnyPlace(check);
        bytesTurnedRound(check);
        masksThatForbid(check);
        theMaskGrowsOld(check);
        check.end();
    }

    private static void callsAndJumps(Check check) {
        check.thereAndBack(2, 0, "E8 10 00 00 00", "E8 15 00 00 00", 1);
        check.thereAndBack(2, 0, "E9 10 00 00 00", "E9 15 00 00 00", 1);
        check.thereAndBack(2, 0x100, "E8 F0 FF FF FF", "E8 F5 00 00 00", 1);
        check.thereAndBack(2, 0, "E8 FB FF FF 00", "E8 00 00 00 FF", 1);
        check.thereAndBack(2, 0, "90 90 E8 00 00 00 00", "90 90 E8 07 00 00 00", 1);
        check.thereAndBack(2, 0, "E8 00 00 00 00 E8 00 00 00 00", "E8 05 00 00 00 E8 0A 00 00 00", 2);
        check.thereAndBack(2, 0, "E8 E8 E8 E8 00 E8 E8 E8 E8 00", "E8 ED E8 E8 00 E8 F2 E8 E8 00", 2);
        for (String other : new String[] {"E7 10 00 00 00", "EA 10 00 00 00", "E8 10 00 00 01", "E8 10 00 00 FE", "E8 00 00 00", "68 00 00 00 00"}) {
            check.oneFilter(2, 0, true, other, other, 0);
        }
    }

    private static void startsAtAnyPlace(Check check) {
        check.thereAndBack(2, -5, "E8 01 02 03 00", "E8 01 02 03 00", 1);
        check.thereAndBack(2, -2, "E8 00 00 00 00 E8 00 00 00 00", "E8 03 00 00 00 E8 08 00 00 00", 2);
        check.thereAndBack(2, Integer.MAX_VALUE, "E8 00 00 00 00", "E8 04 00 00 00", 1);
        check.thereAndBack(2, 0x01234567, "E8 00 00 00 00", "E8 6C 45 23 FF", 1);
        check.thereAndBack(2, -1, "E8 E8 11 22 33 00", "E8 E8 16 22 33 00", 1);
        check.thereAndBack(2, Integer.MAX_VALUE - 1, "E8 90 E8 11 22 00 00", "E8 90 E8 16 22 00 00", 1);
    }

    private static void bytesTurnedRound(Check check) {
        check.thereAndBack(2, 0, "E8 E8 11 22 33 00", "E8 E8 17 22 33 00", 1);
        check.thereAndBack(2, 0, "E8 E8 FF FF FE 00", "E8 E8 00 00 01 00", 1);
        check.thereAndBack(2, 0, "E8 90 E8 FF FE 00 00", "E8 90 E8 00 01 00 00", 1);
        check.thereAndBack(2, 0, "E8 90 90 E8 F7 00 00 00", "E8 90 90 E8 08 00 00 00", 1);
        check.thereAndBack(2, 0, "E8 90 90 E8 FE 00 00 00", "E8 90 90 E8 06 01 00 00", 1);
        check.thereAndBack(2, 0, "E8 90 90 90 E8 F6 00 00 00", "E8 90 90 90 E8 FF 00 00 00", 1);
        check.thereAndBack(2, 0x01000000, "E8 E8 FF FF FE 00", "E8 E8 00 00 01 00", 1);
    }

    private static void masksThatForbid(Check check) {
        mask(check, "E8 E8 E8 11 22 33 00", "2 1 4 3 0 23");
        mask(check, "E8 E8 E8 E8 22 33 44 00", "2 1 4 4 0 31");
        mask(check, "E8 E8 90 E8 22 33 44 00", "2 1 4 4 0 29");
        mask(check, "E8 90 E8 E8 22 33 44 00", "2 1 4 4 0 27");
        mask(check, "E8 E8 E8 E8 11 22 33 00 00", "2 1 4 5 0 31");
        mask(check, "E8 E8 E8 E8 E8 E8 E8 00 00 00 00", "2 1 4 7 0 255");
        // Modulo 8 it would be let through, but MASK / 2 is not below 16.
        mask(check, "E8 E8 E8 11 22 E8 00 11 22 00", "2 1 4 6 0 153");
        mask(check, "E8 E8 E8 11 22 33 00 E8 00 00 00 00", "2 1 0 12 1 0");
        mask(check, "E8 E8 E8 E8 11 22 00 00", "2 1 4 4 0 63");
    }

    private static void mask(Check check, String in, String due) {
        BranchFilters x = new BranchFilters();
        x.filter(0, 2, 1);
        Check.feed(x, Check.bytes(in), 16);
        check.same("counts behind " + in, Check.counts(x, 0), due);
    }

    private static void theMaskGrowsOld(Check check) {
        BranchFilters x = new BranchFilters();
        x.filter(0, 2, 1);
        Check.feed(x, Check.bytes("E8 11 22 33 44 55 66 77 88 99"), 16);
        check.same("other bytes leave it", x.count(0, 5), 1);
        Check.feed(x, Check.bytes("E8 11 22 33 44"), 16);
        check.same("above 5 it is 0 first", x.count(0, 5), 1);
        String[] near = {"E8 E8 11 22 33 44", "E8 90 E8 11 22 33 44", "E8 90 90 E8 11 22 33 44",
            "E8 90 90 90 E8 11 22 33 44", "E8 90 90 90 91 E8 11 22 33 44"};
        int[] due = {3, 5, 9, 1, 1};
        for (int i = 0; i < near.length; i++) {
            x.begin(9, true);
            Check.feed(x, Check.bytes(near[i]), 16);
            check.same("MASK behind " + near[i], x.count(0, 5), due[i]);
        }
        x.begin(0, true);
        Check.feed(x, Check.bytes("E8 E8 11 22 33 00"), 16);
        check.same("0 where a number is put in", x.count(0, 5), 0);
    }
}
