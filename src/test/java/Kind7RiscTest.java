/** Kind 7, RISC: sentence by sentence, at the edges, with bytes worked out by hand. */
public final class Kind7RiscTest {
    private static final String REST = " 00 00 00 00";

    public static void main(String[] args) {
        Check check = new Check();
        withEight(check);
        lowestFirst(check);
        jumpsOfOneAndFive(check);
        everyBitOfAJump(check);
        jumpsMovedByThePlace(check);
        bitsBesideAJumpsAreLeftOut(check);
        jumpsGiveFour(check);
        pairsOfEveryRegister(check);
        pairsGiveEightAlsoIfLeft(check);
        secondMustBelongToTheFirst(check);
        pairsMovedByThePlace(check);
        secondWithItsSign(check);
        oneMoreIfBitElevenIsOne(check);
        numbersGoRound(check);
        placeGoesRound(check);
        elseTwo(check);
        check.end();
    }

    private static String word(int w) {
        return Check.hex(w & 0xFF, w >>> 8 & 0xFF, w >>> 16 & 0xFF, w >>> 24);
    }

    private static void withEight(Check check) {
        check.sentence("7 RISC: with eight");
        check.countsBehind(7, "", "7 1 0 0 0 0");
        check.countsBehind(7, "EF 00 00 00", "7 1 4 0 0 0");
        check.countsBehind(7, "EF 00 00 00 00 00 00", "7 1 7 0 0 0");
        check.countsBehind(7, "EF 00 00 00 00 00 00 00", "7 1 4 4 1 0");
        check.countsBehind(7, "97 00 00 00 E7 80 00", "7 1 7 0 0 0");
        check.countsBehind(7, "97 00 00 00 E7 80 00 00", "7 1 0 8 1 0");
        check.countsBehind(7, "01 00 00 00 00 00 00", "7 1 7 0 0 0");
        check.countsBehind(7, "01 00 00 00 00 00 00 00", "7 1 6 2 0 0");
        check.untouched(7, 0x200, "EF 00 00 00", "EF 00 00 00 00 00 00", "97 00 00 00 E7 80 00", "EF");
    }

    private static void lowestFirst(Check check) {
        check.sentence("w is of b0 .. b3, the lowest first");
        check.untouched(7, 0x200, "00 00 00 EF" + REST, "00 00 00 97 00 00 80 E7");
        check.thereAndBack(7, 0x200, "EF 00 00 00" + REST, "EF 00 00 20" + REST, 1);
    }

    private static void jumpsOfOneAndFive(Check check) {
        check.sentence("If its lowest seven bits are 6Fh, and the next five 1 or 5");
        for (int r = 0; r < 32; r++) {
            String in = word(r << 7 | 0x6F) + REST;
            if (r == 1 || r == 5) {
                check.thereAndBack(7, 0x200, in, word(0x20000000 | r << 7 | 0x6F) + REST, 1);
            } else {
                check.untouched(7, 0x200, in);
            }
        }
        for (int code = 0; code < 128; code++) {
            if (code != 0x6F && code != 0x17) {
                check.untouched(7, 0x200, word(1 << 7 | code) + REST, word(5 << 7 | code) + REST);
            }
        }
    }

    private static void everyBitOfAJump(Check check) {
        check.sentence("the bits 20 .. 1 of a number are the bits 31, 19 .. 12, 20, 30 .. 21 of w, from the highest on");
        int[] from = {31, 19, 18, 17, 16, 15, 14, 13, 12, 20, 30, 29, 28, 27, 26, 25, 24, 23, 22, 21};
        for (int i = 0; i < 20; i++) {
            int bit = 20 - i;
            check.thereAndBack(7, 1 << bit, "EF 00 00 00" + REST, word(1 << from[i] | 0xEF) + REST, 1);
            check.thereAndBack(7, 0, word(1 << from[i] | 0xEF) + REST, word(1 << from[i] | 0xEF) + REST, 1);
            check.oneFilter(7, 1 << bit, false, word(1 << from[i] | 0xEF) + REST, "EF 00 00 00" + REST, 1);
        }
        check.thereAndBack(7, 2, "EF 00 E0 7F" + REST, "EF 00 10 00" + REST, 1);
        check.thereAndBack(7, 2, "EF 00 F0 7F" + REST, "EF 10 00 00" + REST, 1);
        check.thereAndBack(7, 2, "EF F0 FF 7F" + REST, "EF 00 00 80" + REST, 1);
    }

    private static void jumpsMovedByThePlace(Check check) {
        check.sentence("it is moved by m = p, and they stand there again");
        check.thereAndBack(7, 0x1FC, "EF 00 00 00 EF 02 00 00" + REST, "EF 00 C0 1F EF 02 00 20" + REST, 2);
        check.thereAndBack(7, 0, "EF 12 34 56" + REST, "EF 12 34 56" + REST, 1);
        check.oneFilter(7, 2, false, "EF 00 00 00" + REST, "EF F0 FF FF" + REST, 1);
    }

    private static void bitsBesideAJumpsAreLeftOut(Check check) {
        check.sentence("it is moved by m = p, and they stand there again");
        for (int bit = 21; bit < 32; bit++) {
            check.thereAndBack(7, 1 << bit, "EF 12 34 56" + REST, "EF 12 34 56" + REST, 1);
        }
        check.thereAndBack(7, 2, "EF F0 DF FF" + REST, "EF F0 FF FF" + REST, 1);
        check.thereAndBack(7, 2, "EF F0 FF FF" + REST, "EF 00 00 00" + REST, 1);
        check.oneFilter(7, 1, true, "EF 00 00 00" + REST, "EF 00 00 00" + REST, 1);
        check.oneFilter(7, 1, false, "EF 00 00 00" + REST, "EF F0 FF FF" + REST, 1);
        check.oneFilter(7, 3, false, "EF 00 00 00" + REST, "EF F0 DF FF" + REST, 1);
    }

    private static void jumpsGiveFour(Check check) {
        check.sentence("and they stand there again; gives four");
        check.countsBehind(7, "EF 00 00 00 00 00 00 00", "7 1 4 4 1 0");
        check.countsBehind(7, "EF 00 00 00 EF 00 00 00", "7 1 4 4 1 0");
        check.countsBehind(7, "EF 00 00 00 EF 00 00 00 00 00 00 00", "7 1 4 8 2 0");
        // Bytes 2 and 3 begin no jump of their own, though they look like one.
        check.thereAndBack(7, 0, "EF 00 EF 00 00 00 00 00 00 00", "EF 00 EF 00 00 00 00 00 00 00", 1);
    }

    private static void pairsOfEveryRegister(Check check) {
        check.sentence("Else if the lowest seven bits are 17h, and the next five r are not 0, it gives eight");
        for (int r = 1; r < 32; r++) {
            for (int code : new int[] {0x67, 0x03}) {
                String in = word(r << 7 | 0x17) + " " + word(r << 15 | code);
                String due = word(0x1000 | r << 7 | 0x17) + " " + word(r << 15 | code);
                check.thereAndBack(7, 0x1000, in, due, 1);
                check.countsBehind(7, in, "7 1 0 8 1 0");
            }
        }
        check.untouched(7, 0x1000, "17 00 00 00 67 00 00 00", "17 00 00 00 03 00 00 00");
        check.countsBehind(7, "17 00 00 00 67 00 00 00", "7 1 6 2 0 0");
        check.thereAndBack(7, 0x200, "17 00 00 00 EF 00 00 00" + REST, "17 00 00 00 EF 00 40 20" + REST, 1);
    }

    private static void pairsGiveEightAlsoIfLeft(Check check) {
        check.sentence("it gives eight");
        check.countsBehind(7, "97 00 00 00 00 00 00 00", "7 1 0 8 0 0");
        check.countsBehind(7, "97 00 00 00 EF 00 00 00", "7 1 0 8 0 0");
        check.untouched(7, 0x200, "97 00 00 00 EF 00 00 00 00 00 00 00", "97 00 EF 00 00 00 00 00 00 00");
        check.thereAndBack(7, 0x200, "97 00 00 00 00 00 00 00 EF 00 00 00" + REST,
                "97 00 00 00 00 00 00 00 EF 00 80 20" + REST, 1);
    }

    private static void secondMustBelongToTheFirst(Check check) {
        check.sentence("if v, of b4 .. b7 likewise, has r in its bits 19 .. 15 and 67h or 03h in its lowest seven");
        for (int r = 0; r < 32; r++) {
            if (r != 5) {
                check.untouched(7, 0x1000, word(5 << 7 | 0x17) + " " + word(r << 15 | 0x67),
                        word(5 << 7 | 0x17) + " " + word(r << 15 | 0x03));
            }
        }
        for (int code = 0; code < 128; code++) {
            if (code != 0x67 && code != 0x03) {
                check.untouched(7, 0x1000, word(5 << 7 | 0x17) + " " + word(5 << 15 | code));
            }
        }
        // The bits 14 .. 7 of v, and r itself, stay as they are.
        check.thereAndBack(7, 0x1000, "97 02 00 00 E7 FF 02 00", "97 12 00 00 E7 FF 02 00", 1);
        check.thereAndBack(7, 0x1000, "97 02 00 00 83 FF 02 00", "97 12 00 00 83 FF 02 00", 1);
    }

    private static void pairsMovedByThePlace(Check check) {
        check.sentence("the number of w's bits 31 .. 12 times 4096, and v's bits 31 .. 20 with their sign, is moved by m = p");
        check.thereAndBack(7, 0x12345, "97 00 00 00 E7 80 00 00", "97 20 01 00 E7 80 50 34", 1);
        check.thereAndBack(7, 0x1000, "97 00 00 00 E7 80 00 00 97 00 00 00 E7 80 00 00",
                "97 10 00 00 E7 80 00 00 97 10 00 00 E7 80 80 00", 2);
        check.oneFilter(7, 0, true, "97 10 34 56 67 80 30 F2", "97 10 34 56 67 80 30 F2", 1);
        check.oneFilter(7, 1, false, "97 00 00 00 E7 80 00 00", "97 00 00 00 E7 80 F0 FF", 1);
    }

    private static void secondWithItsSign(Check check) {
        check.sentence("and v's bits 31 .. 20 with their sign");
        check.thereAndBack(7, 0, "97 10 00 00 E7 80 F0 FF", "97 10 00 00 E7 80 F0 FF", 1);
        check.thereAndBack(7, 1, "97 10 00 00 E7 80 F0 FF", "97 10 00 00 E7 80 00 00", 1);
        check.thereAndBack(7, 1, "97 00 00 00 E7 80 F0 FF", "97 00 00 00 E7 80 00 00", 1);
        check.thereAndBack(7, 0x800, "97 10 00 00 E7 80 00 80", "97 10 00 00 E7 80 00 00", 1);
        check.thereAndBack(7, 1, "97 00 00 00 E7 80 F0 7F", "97 10 00 00 E7 80 00 80", 1);
    }

    private static void oneMoreIfBitElevenIsOne(Check check) {
        check.sentence("its lowest twelve bits come to v, the others, one more if bit 11 is 1, to w");
        check.thereAndBack(7, 0x7FF, "97 00 00 00 E7 80 00 00", "97 00 00 00 E7 80 F0 7F", 1);
        check.thereAndBack(7, 0x800, "97 00 00 00 E7 80 00 00", "97 10 00 00 E7 80 00 80", 1);
        check.thereAndBack(7, 0xFFF, "97 00 00 00 E7 80 00 00", "97 10 00 00 E7 80 F0 FF", 1);
        check.thereAndBack(7, 0x1000, "97 00 00 00 E7 80 00 00", "97 10 00 00 E7 80 00 00", 1);
        check.thereAndBack(7, 0x12FFF, "97 00 00 00 E7 80 00 00", "97 30 01 00 E7 80 F0 FF", 1);
        check.thereAndBack(7, 0xFFFFF7FF, "97 00 00 00 E7 80 00 00", "97 F0 FF FF E7 80 F0 7F", 1);
        check.thereAndBack(7, 0xFFFFF800, "97 00 00 00 E7 80 00 00", "97 00 00 00 E7 80 00 80", 1);
        check.thereAndBack(7, 0xFFFFFFFF, "97 00 00 00 E7 80 00 00", "97 00 00 00 E7 80 F0 FF", 1);
    }

    private static void numbersGoRound(Check check) {
        check.sentence("Numbers are of 32 bits, going round");
        check.thereAndBack(7, 0x1000, "17 F1 FF FF 03 31 01 00", "17 01 00 00 03 31 01 00", 1);
        check.thereAndBack(7, -0x1000, "97 10 00 00 E7 80 00 00", "97 00 00 00 E7 80 00 00", 1);
        check.thereAndBack(7, Integer.MIN_VALUE, "97 00 00 80 E7 80 00 00", "97 00 00 00 E7 80 00 00", 1);
        check.thereAndBack(7, -2, "EF 00 20 00" + REST, "EF 00 00 00" + REST, 1);
        check.thereAndBack(7, -2, "EF 00 00 00" + REST, "EF F0 FF FF" + REST, 1);
    }

    private static void placeGoesRound(Check check) {
        check.sentence("A FILTER has a PLACE (32 bits, going round)");
        check.thereAndBack(7, -4, "EF 00 00 00 EF 00 00 00 EF 00 00 00" + REST, "EF F0 DF FF EF 00 00 00 EF 00 40 00" + REST, 3);
        check.thereAndBack(7, -2, "01 00 EF 00 00 00" + REST, "01 00 EF 00 00 00" + REST, 1);
        check.thereAndBack(7, -8, "97 00 00 00 E7 80 00 00 97 00 00 00 E7 80 00 00",
                "97 00 00 00 E7 80 80 FF 97 00 00 00 E7 80 00 00", 2);
        check.thereAndBack(7, -4, "97 00 00 00 E7 80 00 00 97 00 00 00 E7 80 00 00",
                "97 00 00 00 E7 80 C0 FF 97 00 00 00 E7 80 40 00", 2);
        check.thereAndBack(7, Integer.MAX_VALUE - 7, "97 00 00 00 E7 80 00 00 97 00 00 00 E7 80 00 00",
                "97 00 00 80 E7 80 80 FF 97 00 00 80 E7 80 00 00", 2);
    }

    private static void elseTwo(Check check) {
        check.sentence("Else two.");
        check.countsBehind(7, "00 00 00 00 00 00 00 00", "7 1 6 2 0 0");
        check.countsBehind(7, "00 00 00 00 00 00 00 00 00", "7 1 7 2 0 0");
        check.countsBehind(7, "6F 00 00 00 00 00 00 00 00 00", "7 1 6 4 0 0");
        check.thereAndBack(7, 0x1FE, "01 00 EF 00 00 00" + REST, "01 00 EF 00 00 20" + REST, 1);
        check.thereAndBack(7, 0xFFE, "6F 00 97 00 00 00 E7 80 00 00", "6F 00 97 10 00 00 E7 80 00 00", 1);
        check.untouched(7, 0x200, "01 EF 00 00 00 00 00 00 00 00");
    }
}
