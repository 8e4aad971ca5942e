/** Kind 4, THUMB: sentence by sentence, at the edges, with bytes worked out by hand. */
public final class Kind4ThumbTest {
    public static void main(String[] args) {
        Check check = new Check();
        withFourBytes(check);
        onlyWithTheHigherFiveBits(check);
        highestFirst(check);
        movedByThePlaceAndFour(check);
        halved(check);
        lowestTwentyTwoBits(check);
        numbersGoRound(check);
        placeGoesRound(check);
        givesFour(check);
        elseTwo(check);
        check.end();
    }

    private static void withFourBytes(Check check) {
        check.sentence("4 THUMB: with four bytes");
        check.countsBehind(4, "", "4 1 0 0 0 0");
        check.countsBehind(4, "00", "4 1 1 0 0 0");
        check.countsBehind(4, "00 F0 00", "4 1 3 0 0 0");
        check.countsBehind(4, "00 00 00", "4 1 3 0 0 0");
        check.countsBehind(4, "00 F0 00 F8", "4 1 0 4 1 0");
        check.untouched(4, 0, "00 F0 00", "00 F0", "F0");
    }

    private static void onlyWithTheHigherFiveBits(Check check) {
        check.sentence("if the higher five bits of b1 are 11110, and of b3 11111");
        for (int b = 0; b < 256; b++) {
            if (b < 0xF0 || b > 0xF7) {
                check.untouched(4, 0, "00 " + Check.hex(b) + " 00 F8");
            } else {
                check.same("b1 " + b, Check.fed(4, 0, true, "00 " + Check.hex(b) + " 00 F8").count(0, 4), 1);
            }
            if (b < 0xF8) {
                check.untouched(4, 0, "00 F0 00 " + Check.hex(b));
            } else {
                check.same("b3 " + b, Check.fed(4, 0, true, "00 F0 00 " + Check.hex(b)).count(0, 4), 1);
            }
        }
        check.untouched(4, 0, "F0 00 F8 00", "00 EF 00 F8", "00 F8 00 FF", "00 F7 00 F7");
        check.thereAndBack(4, 0, "00 F7 00 F8", "00 F7 02 F8", 1);
        check.thereAndBack(4, 0, "00 F0 00 FF", "00 F0 02 FF", 1);
    }

    private static void highestFirst(Check check) {
        check.sentence("n is of the lower three bits of b1, b0, the lower three of b3, b2, the highest first");
        check.thereAndBack(4, 0, "00 F0 FE F8", "00 F0 00 F9", 1);
        check.thereAndBack(4, 0, "00 F0 FE FF", "01 F0 00 F8", 1);
        check.thereAndBack(4, 0, "FF F0 FE FF", "00 F1 00 F8", 1);
        check.thereAndBack(4, 0x1FC, "00 F0 00 F8", "00 F0 00 F9", 1);
        check.thereAndBack(4, 0xFFC, "00 F0 00 F8", "01 F0 00 F8", 1);
        check.thereAndBack(4, 0xFFFFC, "00 F0 00 F8", "00 F1 00 F8", 1);
        check.thereAndBack(4, 0, "12 F5 34 FB", "12 F5 36 FB", 1);
    }

    private static void movedByThePlaceAndFour(Check check) {
        check.sentence("2 n is moved by m = p + 4");
        check.thereAndBack(4, 0, "00 F0 00 F8 00 F0 00 F8", "00 F0 02 F8 00 F0 04 F8", 2);
        check.oneFilter(4, 0, false, "00 F0 00 F8", "FF F7 FE FF", 1);
        check.thereAndBack(4, -4, "01 F2 03 FC", "01 F2 03 FC", 1);
    }

    private static void halved(Check check) {
        check.sentence("halved");
        check.oneFilter(4, 1, true, "00 F0 00 F8", "00 F0 02 F8", 1);
        check.oneFilter(4, 2, true, "00 F0 00 F8", "00 F0 03 F8", 1);
        check.oneFilter(4, 1, false, "00 F0 00 F8", "FF F7 FD FF", 1);
        check.oneFilter(4, 2, false, "00 F0 00 F8", "FF F7 FD FF", 1);
        check.oneFilter(4, 3, false, "00 F0 00 F8", "FF F7 FC FF", 1);
    }

    private static void lowestTwentyTwoBits(Check check) {
        check.sentence("its 22 lowest bits stand there again");
        check.thereAndBack(4, 0, "FF F7 FD FF", "FF F7 FF FF", 1);
        check.thereAndBack(4, 0, "FF F7 FE FF", "00 F0 00 F8", 1);
        check.thereAndBack(4, 0, "FF F7 FF FF", "00 F0 01 F8", 1);
        check.thereAndBack(4, 0x400000 - 4, "00 F0 00 F8", "00 F4 00 F8", 1);
        for (int bit = 23; bit < 32; bit++) {
            check.thereAndBack(4, (1 << bit) - 4, "12 F5 34 FB", "12 F5 34 FB", 1);
        }
    }

    private static void numbersGoRound(Check check) {
        check.sentence("Numbers are of 32 bits, going round");
        check.thereAndBack(4, -6, "00 F0 00 F8", "FF F7 FF FF", 1);
        check.thereAndBack(4, -6, "00 F0 01 F8", "00 F0 00 F8", 1);
        check.thereAndBack(4, -8, "FF F7 FF FF", "FF F7 FD FF", 1);
    }

    private static void placeGoesRound(Check check) {
        check.sentence("A FILTER has a PLACE (32 bits, going round)");
        check.thereAndBack(4, -2, "00 F0 00 F8 00 F0 00 F8", "00 F0 01 F8 00 F0 03 F8", 2);
        check.thereAndBack(4, -2, "00 00 00 F0 00 F8", "00 00 00 F0 02 F8", 1);
        check.thereAndBack(4, Integer.MAX_VALUE - 3, "00 F0 00 F8 00 F0 00 F8", "00 F0 00 F8 00 F0 02 F8", 2);
    }

    private static void givesFour(Check check) {
        check.sentence("its 22 lowest bits stand there again; gives four");
        check.countsBehind(4, "00 F0 00 F8 00 00 00", "4 1 3 4 1 0");
        // Were it two, b2 and b3 would be looked at again as b0 and b1.
        check.countsBehind(4, "00 F0 00 F8 00 F8", "4 1 2 4 1 0");
        check.thereAndBack(4, 0, "00 F0 00 F8 00 F8 00 F8", "00 F0 02 F8 00 F8 00 F8", 1);
    }

    private static void elseTwo(Check check) {
        check.sentence("else two");
        check.countsBehind(4, "00 00 00 00", "4 1 2 2 0 0");
        check.countsBehind(4, "00 00 00 00 00", "4 1 3 2 0 0");
        check.countsBehind(4, "00 00 00 00 00 00", "4 1 2 4 0 0");
        check.thereAndBack(4, 0, "11 22 00 F0 00 F8", "11 22 00 F0 03 F8", 1);
        check.thereAndBack(4, 0, "00 F0 00 F0 00 F8", "00 F0 00 F0 03 F8", 1);
        check.untouched(4, 0, "00 00 F0 00 F8 00 00", "00 00 00 F0 00", "00 F0 00 00 00 F8");
    }
}
