/** Kind 2, X86: its MASK and LAST, sentence by sentence, at the edges, with bytes worked out by hand. */
public final class Kind2X86Test {
    public static void main(String[] args) {
        Check check = new Check();
        withFive(check);
        maskAtFirst(check);
        neitherCallNorJump(check);
        maskGrowsOld(check);
        highBitsGrowOldToo(check);
        onlyWithASignByte(check);
        masksThatAllow(check);
        masksThatForbid(check);
        forbiddenFromSixteenOn(check);
        lowestFirst(check);
        movedByThePlaceAndFive(check);
        byteOneTurnedRound(check);
        byteTwoTurnedRound(check);
        byteThreeTurnedRound(check);
        noTurnWithoutAMask(check);
        bitTwentyFourFillsTheHighestByte(check);
        numbersGoRound(check);
        placeGoesRound(check);
        givesFiveAndForgetsTheMask(check);
        elseTheMaskGetsBits(check);
        check.end();
    }

    private static void mask(Check check, String in, int due) {
        check.same("MASK behind " + in, Check.fed(2, 0, true, in).count(0, 5), due);
        check.same("MASK behind " + in + ", START 77", Check.fed(2, 77, false, in).count(0, 5), due);
    }

    private static void withFive(Check check) {
        check.sentence("2 X86: with five");
        check.countsBehind(2, "", "2 1 0 0 0 0");
        check.countsBehind(2, "90", "2 1 1 0 0 0");
        check.countsBehind(2, "90 90 90 90", "2 1 4 0 0 0");
        check.countsBehind(2, "90 90 90 90 90", "2 1 4 1 0 0");
        check.countsBehind(2, "E8 10 00 00", "2 1 4 0 0 0");
        check.countsBehind(2, "E8 10 00 00 00", "2 1 0 5 1 0");
        check.countsBehind(2, "E8 10 00 00 00 E8 10 00 00", "2 1 4 5 1 0");
        check.untouched(2, 0, "E8 10 00 00", "E8", "90 E8 10 00 00", "E9 00 00");
    }

    private static void maskAtFirst(Check check) {
        check.sentence("it has a MASK, 0 at first, and a LAST, START - 5 at first");
        for (int start : new int[] {0, 1, 4, 5, 6, -1, -5, -6, Integer.MIN_VALUE, Integer.MAX_VALUE}) {
            BranchFilters x = Check.fed(2, start, true, "");
            check.same("MASK at first", x.count(0, 5), 0);
            Check.feed(x, "E8 11 22 33 44");
            check.same("MASK behind the first, START " + start, x.count(0, 5), 1);
        }
    }

    private static void neitherCallNorJump(Check check) {
        check.sentence("If b0 is neither E8h nor E9h it gives one.");
        for (int b0 = 0; b0 < 256; b0++) {
            String in = Check.hex(b0) + " 10 00 00 00";
            if (b0 == 0xE8 || b0 == 0xE9) {
                check.thereAndBack(2, 0, in, Check.hex(b0) + " 15 00 00 00", 1);
            } else {
                check.untouched(2, 0, in);
                check.countsBehind(2, in, "2 1 4 1 0 0");
            }
        }
        mask(check, "E8 11 22 33 44 55 66 77 88 99", 1);
    }

    private static void maskGrowsOld(Check check) {
        check.sentence("if d is above 5 (without a sign) the MASK is 0, else d times the MASK's bits 0 .. 2 and 4 .. 6 "
                + "alone are kept, and it is doubled");
        mask(check, "E8 E8 11 22 33 44", 3);
        mask(check, "E8 90 E8 11 22 33 44", 5);
        mask(check, "E8 90 90 E8 11 22 33 44", 9);
        mask(check, "E8 90 90 90 E8 11 22 33 44", 1);
        mask(check, "E8 90 90 90 91 E8 11 22 33 44", 1);
        mask(check, "E8 90 90 90 91 92 E8 11 22 33 44", 1);
        mask(check, "E8 90 90 90 91 92 93 E8 11 22 33 44", 1);
        mask(check, "E8 E8 E8 11 22 33 44", 7);
        mask(check, "E8 E8 E8 E8 11 22 33 44", 15);
        mask(check, "E8 E8 E8 E8 E8 11 22 33 44", 15);
        mask(check, "E8 E8 E8 E8 90 E8 11 22 33 44", 13);
        mask(check, "E8 E8 E8 E8 90 90 E8 11 22 33 44", 9);
        mask(check, "E8 E8 E8 E8 90 90 90 E8 11 22 33 44", 1);
    }

    // Behind E8 E8 E8 .. 00 the MASK is 23: 16 and 1 for the last one, 4 and 2 for those before.
    private static void highBitsGrowOldToo(Check check) {
        check.sentence("d times the MASK's bits 0 .. 2 and 4 .. 6 alone are kept, and it is doubled");
        mask(check, "E8 E8 E8 11 22 33 00", 23);
        mask(check, "E8 E8 E8 E8 22 33 00 44", 47);
        mask(check, "E8 E8 E8 11 E8 33 00 44 55", 77);
        mask(check, "E8 E8 E8 11 22 E8 00 44 55 66", 137);
        mask(check, "E8 E8 E8 11 22 33 00 44 55 66 77 E8 55 66 77 88", 1);
        mask(check, "E8 E8 E8 E8 E8 E8 E8 00 00 00 00", 255);
        mask(check, "E8 E8 E8 E8 E8 E8 E8 E8 00 00 00 00", 255);
    }

    private static void onlyWithASignByte(Check check) {
        check.sentence("If b4 is 0 or FFh");
        for (int b4 = 1; b4 < 255; b4++) {
            check.untouched(2, 0, "E8 10 00 00 " + Check.hex(b4), "E9 10 00 00 " + Check.hex(b4));
        }
        check.thereAndBack(2, 0, "E8 10 00 00 00", "E8 15 00 00 00", 1);
        check.thereAndBack(2, 0, "E8 10 00 00 FF", "E8 15 00 00 FF", 1);
    }

    private static void masksThatAllow(Check check) {
        check.sentence("MASK / 2 is below 16 and, modulo 8, 0, 1, 2 or 4");
        check.thereAndBack(2, 0, "E8 11 22 33 00", "E8 16 22 33 00", 1);
        check.thereAndBack(2, 0, "E8 E8 11 22 33 00", "E8 E8 17 22 33 00", 1);
        check.thereAndBack(2, 0, "E8 90 E8 11 22 33 00", "E8 90 E8 18 22 33 00", 1);
        check.thereAndBack(2, 0, "E8 90 90 E8 11 22 33 00", "E8 90 90 E8 19 22 33 00", 1);
        check.thereAndBack(2, 0, "E8 90 90 90 E8 11 22 33 00", "E8 90 90 90 E8 1A 22 33 00", 1);
    }

    // MASK / 2 is 3, 5, 6 and 7.
    private static void masksThatForbid(Check check) {
        check.sentence("MASK / 2 is below 16 and, modulo 8, 0, 1, 2 or 4");
        String[] ins = {"E8 E8 E8 11 22 33 00", "E8 90 E8 E8 22 33 44 00", "E8 E8 90 E8 22 33 44 00",
            "E8 E8 E8 E8 22 33 44 00", "E9 E9 E9 11 22 33 FF"};
        int[] masks = {23, 27, 29, 31, 23};
        for (int i = 0; i < ins.length; i++) {
            check.untouched(2, 0, ins[i]);
            mask(check, ins[i], masks[i]);
        }
    }

    // Modulo 8 MASK / 2 is 4 and 2, which alone would do: a 16 of an E8 before forbids it.
    private static void forbiddenFromSixteenOn(Check check) {
        check.sentence("MASK / 2 is below 16 and, modulo 8, 0, 1, 2 or 4");
        check.untouched(2, 0, "E8 E8 E8 11 22 E8 00 11 22 00", "E8 E8 90 E8 22 E8 44 00 11 00");
        mask(check, "E8 E8 E8 11 22 E8 00 11 22 00", 153);
        mask(check, "E8 E8 90 E8 22 E8 44 00 11 00", 85);
    }

    private static void lowestFirst(Check check) {
        check.sentence("n is of b1 .. b4, the lowest first");
        check.thereAndBack(2, 0, "E8 FB 00 00 00", "E8 00 01 00 00", 1);
        check.thereAndBack(2, 0, "E8 FB FF 00 00", "E8 00 00 01 00", 1);
        check.thereAndBack(2, 0, "E8 FB FF FF 00", "E8 00 00 00 FF", 1);
        check.thereAndBack(2, 0, "E8 FB FF FF FF", "E8 00 00 00 00", 1);
    }

    private static void movedByThePlaceAndFive(Check check) {
        check.sentence("n is moved by m = p + 5: that is t");
        check.thereAndBack(2, 0, "E8 00 00 00 00 E9 00 00 00 00", "E8 05 00 00 00 E9 0A 00 00 00", 2);
        check.thereAndBack(2, 0, "90 90 E8 00 00 00 00", "90 90 E8 07 00 00 00", 1);
        check.thereAndBack(2, 0x100, "E8 F0 FF FF FF", "E8 F5 00 00 00", 1);
        check.thereAndBack(2, -5, "E8 01 02 03 00", "E8 01 02 03 00", 1);
        check.oneFilter(2, 0, false, "E8 00 00 00 00", "E8 FB FF FF FF", 1);
    }

    // MASK / 2 is 1: the byte looked at is the one below the highest.
    private static void byteOneTurnedRound(Check check) {
        check.sentence("i is 1, 2, 2, 3 for MASK / 2 = 1, 2, 3, 4; if t's byte i (0 is the highest) is neither 0 nor FFh, "
                + "enough; else n is t with all bits below those of the i highest bytes turned round, and t is n moved by m");
        check.thereAndBack(2, 0, "E8 E8 00 00 01 00", "E8 E8 06 00 01 00", 1);
        check.thereAndBack(2, 0, "E8 E8 F9 FF FE 00", "E8 E8 FF FF FE 00", 1);
        check.thereAndBack(2, 0, "E8 E8 FA FF FE 00", "E8 E8 05 00 01 00", 1);
        check.thereAndBack(2, 0, "E8 E8 FF FF FE 00", "E8 E8 00 00 01 00", 1);
        check.thereAndBack(2, 0x00CCDDE9, "E8 E8 11 22 33 00", "E8 E8 EE DD CC 00", 1);
        check.thereAndBack(2, 0x01000000, "E8 E8 FF FF FE 00", "E8 E8 00 00 01 00", 1);
        check.thereAndBack(2, 0, "E8 E8 FF FF FE FF", "E8 E8 00 00 01 FF", 1);
    }

    // MASK / 2 is 2.
    private static void byteTwoTurnedRound(Check check) {
        check.sentence("i is 1, 2, 2, 3 for MASK / 2 = 1, 2, 3, 4; if t's byte i (0 is the highest) is neither 0 nor FFh, "
                + "enough; else n is t with all bits below those of the i highest bytes turned round, and t is n moved by m");
        check.thereAndBack(2, 0, "E8 90 E8 00 01 00 00", "E8 90 E8 07 01 00 00", 1);
        check.thereAndBack(2, 0, "E8 90 E8 F8 FE 00 00", "E8 90 E8 FF FE 00 00", 1);
        check.thereAndBack(2, 0, "E8 90 E8 F9 FE 00 00", "E8 90 E8 06 01 00 00", 1);
        check.thereAndBack(2, 0, "E8 90 E8 FF FE 00 00", "E8 90 E8 00 01 00 00", 1);
        check.thereAndBack(2, 0, "E8 90 E8 FF FE AB 00", "E8 90 E8 00 01 AB 00", 1);
        check.thereAndBack(2, 0xDDE8, "E8 90 E8 11 22 AB 00", "E8 90 E8 EE DD AD 00", 1);
    }

    // MASK / 2 is 4.
    private static void byteThreeTurnedRound(Check check) {
        check.sentence("i is 1, 2, 2, 3 for MASK / 2 = 1, 2, 3, 4; if t's byte i (0 is the highest) is neither 0 nor FFh, "
                + "enough; else n is t with all bits below those of the i highest bytes turned round, and t is n moved by m");
        check.thereAndBack(2, 0, "E8 90 90 E8 F6 00 00 00", "E8 90 90 E8 FE 00 00 00", 1);
        check.thereAndBack(2, 0, "E8 90 90 E8 F7 00 00 00", "E8 90 90 E8 08 00 00 00", 1);
        check.thereAndBack(2, 0, "E8 90 90 E8 F8 00 00 00", "E8 90 90 E8 07 02 00 00", 1);
        check.thereAndBack(2, 0, "E8 90 90 E8 F9 00 00 00", "E8 90 90 E8 01 01 00 00", 1);
        check.thereAndBack(2, 0, "E8 90 90 E8 F7 CD AB 00", "E8 90 90 E8 08 CD AB 00", 1);
    }

    private static void noTurnWithoutAMask(Check check) {
        check.sentence("as long as the MASK is not 0");
        check.thereAndBack(2, 0, "E8 FF FF FE 00", "E8 04 00 FF 00", 1);
        check.thereAndBack(2, 0, "E8 00 00 00 00", "E8 05 00 00 00", 1);
        check.thereAndBack(2, 0, "E8 90 90 90 E8 F6 00 00 00", "E8 90 90 90 E8 FF 00 00 00", 1);
        // With d from 4 on nothing is left of a MASK of 1, and above 5 it is 0 anyway.
        check.thereAndBack(2, 0, "E8 90 90 90 E8 FF FF FE 00", "E8 90 90 90 E8 08 00 FF 00", 1);
        check.thereAndBack(2, 0, "E8 90 90 90 91 E8 FF FF FE 00", "E8 90 90 90 91 E8 09 00 FF 00", 1);
        check.thereAndBack(2, 0, "E8 90 90 90 91 92 E8 FF FF FE 00", "E8 90 90 90 91 92 E8 0A 00 FF 00", 1);
        check.thereAndBack(2, 0, "E8 90 90 90 91 92 93 E8 FF FF FE 00", "E8 90 90 90 91 92 93 E8 0B 00 FF 00", 1);
    }

    private static void bitTwentyFourFillsTheHighestByte(Check check) {
        check.sentence("Then b1, b2, b3 are t's lowest bytes, b4 is FFh if bit 24 of t is 1, else 0");
        check.thereAndBack(2, 0, "E8 FA FF FF 00", "E8 FF FF FF 00", 1);
        check.thereAndBack(2, 0, "E8 FB FF FF 00", "E8 00 00 00 FF", 1);
        check.thereAndBack(2, 0x00FFFFFB, "E8 00 00 00 00", "E8 00 00 00 FF", 1);
        check.thereAndBack(2, 0x01FFFFFA, "E8 00 00 00 00", "E8 FF FF FF FF", 1);
        check.thereAndBack(2, 0x01FFFFFB, "E8 00 00 00 00", "E8 00 00 00 00", 1);
        check.thereAndBack(2, 0xFEFFFFFA, "E8 00 00 00 00", "E8 FF FF FF 00", 1);
        check.thereAndBack(2, 0xFEFFFFFB, "E8 00 00 00 00", "E8 00 00 00 FF", 1);
        check.thereAndBack(2, 0x01234567, "E8 00 00 00 00", "E8 6C 45 23 FF", 1);
        for (int bit = 25; bit < 32; bit++) {
            check.thereAndBack(2, 1 << bit, "E8 00 00 00 00", "E8 05 00 00 00", 1);
        }
    }

    private static void numbersGoRound(Check check) {
        check.sentence("Numbers are of 32 bits, going round");
        check.thereAndBack(2, 0, "E8 FF FF FF FF", "E8 04 00 00 00", 1);
        check.thereAndBack(2, -6, "E8 00 00 00 00", "E8 FF FF FF FF", 1);
        check.thereAndBack(2, -6, "E8 01 00 00 00", "E8 00 00 00 00", 1);
        check.thereAndBack(2, Integer.MAX_VALUE, "E8 00 00 00 00", "E8 04 00 00 00", 1);
    }

    private static void placeGoesRound(Check check) {
        check.sentence("A FILTER has a PLACE (32 bits, going round)");
        check.thereAndBack(2, -2, "E8 00 00 00 00 E8 00 00 00 00", "E8 03 00 00 00 E8 08 00 00 00", 2);
        check.thereAndBack(2, -5, "E8 00 00 00 00 E8 00 00 00 00", "E8 00 00 00 00 E8 05 00 00 00", 2);
        // d is 1, 2 and 3 where LAST is below 2^32 and p is behind it.
        check.thereAndBack(2, -1, "E8 E8 FF FF FE 00", "E8 E8 00 00 01 00", 1);
        check.thereAndBack(2, -1, "E8 90 E8 FF FE 00 00", "E8 90 E8 00 01 00 00", 1);
        check.thereAndBack(2, -1, "E8 90 90 E8 F8 00 00 00", "E8 90 90 E8 07 00 00 00", 1);
        check.thereAndBack(2, Integer.MAX_VALUE, "E8 E8 FF FF FE 00", "E8 E8 00 00 01 00", 1);
        check.thereAndBack(2, Integer.MAX_VALUE, "E8 90 90 90 90 90 90 E8 10 00 00 00", "E8 90 90 90 90 90 90 E8 1B 00 00 00", 1);
        check.untouched(2, -2, "E8 E8 E8 11 22 33 00");
    }

    private static void givesFiveAndForgetsTheMask(Check check) {
        check.sentence("the MASK is 0; gives five");
        check.countsBehind(2, "E8 00 00 00 00 11 22 33 44", "2 1 4 5 1 0");
        check.countsBehind(2, "E8 E8 11 22 33 00", "2 1 0 6 1 0");
        check.countsBehind(2, "E8 90 90 E8 11 22 33 00", "2 1 0 8 1 0");
        // The E8 among the five are not looked at, and the MASK keeps nothing of what was before.
        check.thereAndBack(2, 0, "E8 E8 E8 E8 00 E8 E8 E8 E8 00", "E8 ED E8 E8 00 E8 F2 E8 E8 00", 2);
        check.countsBehind(2, "E8 E8 E8 11 22 33 00 E8 00 00 00 00", "2 1 0 12 1 0");
    }

    private static void elseTheMaskGetsBits(Check check) {
        check.sentence("Else the MASK gets 1, and 16 if b4 is 0 or FFh; gives one.");
        check.countsBehind(2, "E8 11 22 33 44", "2 1 4 1 0 1");
        check.countsBehind(2, "E8 11 22 33 01", "2 1 4 1 0 1");
        check.countsBehind(2, "E8 11 22 33 FE", "2 1 4 1 0 1");
        check.countsBehind(2, "E8 E8 E8 11 22 33 00", "2 1 4 3 0 23");
        check.countsBehind(2, "E8 E8 E8 11 22 33 FF", "2 1 4 3 0 23");
        check.countsBehind(2, "E8 E8 E8 11 22 33 01", "2 1 4 3 0 7");
        check.countsBehind(2, "E8 E8 E8 11 22 33 FE", "2 1 4 3 0 7");
        check.countsBehind(2, "E8 E8 E8 E8 11 22 00 00", "2 1 4 4 0 63");
    }
}
