/** Kind 3, ARM: sentence by sentence, at the edges, with bytes worked out by hand. */
public final class Kind3ArmTest {
    public static void main(String[] args) {
        Check check = new Check();
        withFourBytes(check);
        onlyBehindEb(check);
        lowestFirst(check);
        movedByThePlaceAndEight(check);
        lowestTwoBitsAreLeftOut(check);
        highestSixBitsAreLeftOut(check);
        numbersGoRound(check);
        placeGoesRound(check);
        givesFour(check);
        check.end();
    }

    private static void withFourBytes(Check check) {
        check.sentence("3 ARM: with four bytes");
        check.countsBehind(3, "", "3 1 0 0 0 0");
        check.countsBehind(3, "00", "3 1 1 0 0 0");
        check.countsBehind(3, "00 00 EB", "3 1 3 0 0 0");
        check.countsBehind(3, "00 00 00 EB", "3 1 0 4 1 0");
        check.countsBehind(3, "00 00 00 EB 00 00 00", "3 1 3 4 1 0");
        check.untouched(3, 0, "00 00 EB", "EB", "EB EB EB");
    }

    private static void onlyBehindEb(Check check) {
        check.sentence("if b3 is EBh");
        for (int b3 = 0; b3 < 256; b3++) {
            if (b3 != 0xEB) {
                check.untouched(3, 0, "01 02 03 " + Check.hex(b3));
            }
        }
        check.untouched(3, 0, "EB EB EB EA", "EB EB EB EC", "EB EB EB 6B", "EB EB EB AB");
        check.thereAndBack(3, 0, "EB EB EB EB", "ED EB EB EB", 1);
    }

    private static void lowestFirst(Check check) {
        check.sentence("the number n of b0, b1, b2, the lowest first");
        check.thereAndBack(3, 0, "FE 00 00 EB", "00 01 00 EB", 1);
        check.thereAndBack(3, 0, "FE FF 00 EB", "00 00 01 EB", 1);
        check.thereAndBack(3, 0x1000, "01 02 03 EB", "03 06 03 EB", 1);
        check.thereAndBack(3, 0x040C0800 - 8, "00 00 00 EB", "00 02 03 EB", 1);
    }

    private static void movedByThePlaceAndEight(Check check) {
        check.sentence("4 n is moved by m = p + 8");
        check.thereAndBack(3, 0, "00 00 00 EB 00 00 00 EB", "02 00 00 EB 03 00 00 EB", 2);
        check.oneFilter(3, 0, false, "00 00 00 EB", "FE FF FF EB", 1);
        check.oneFilter(3, 0, false, "02 00 00 EB", "00 00 00 EB", 1);
        check.thereAndBack(3, -8, "01 02 03 EB", "01 02 03 EB", 1);
    }

    private static void lowestTwoBitsAreLeftOut(Check check) {
        check.sentence("its lowest two bits and highest six are left out, and it stands there again");
        for (int start = 0; start < 4; start++) {
            check.oneFilter(3, start, true, "00 00 00 EB", "02 00 00 EB", 1);
        }
        check.oneFilter(3, 4, true, "00 00 00 EB", "03 00 00 EB", 1);
        for (int start = 1; start <= 4; start++) {
            check.oneFilter(3, start, false, "00 00 00 EB", "FD FF FF EB", 1);
        }
        check.oneFilter(3, 5, false, "00 00 00 EB", "FC FF FF EB", 1);
    }

    private static void highestSixBitsAreLeftOut(Check check) {
        check.sentence("its lowest two bits and highest six are left out, and it stands there again");
        for (int bit = 26; bit < 32; bit++) {
            check.thereAndBack(3, 1 << bit, "00 00 00 EB", "02 00 00 EB", 1);
        }
        check.thereAndBack(3, 0xFC000000, "00 00 00 EB", "02 00 00 EB", 1);
        check.thereAndBack(3, 1 << 25, "00 00 00 EB", "02 00 80 EB", 1);
        check.thereAndBack(3, 0, "FD FF FF EB", "FF FF FF EB", 1);
        check.thereAndBack(3, 0, "FE FF FF EB", "00 00 00 EB", 1);
        check.thereAndBack(3, 0, "FF FF FF EB", "01 00 00 EB", 1);
    }

    private static void numbersGoRound(Check check) {
        check.sentence("Numbers are of 32 bits, going round");
        check.thereAndBack(3, -16, "FF FF FF EB", "FD FF FF EB", 1);
        check.thereAndBack(3, -16, "00 00 00 EB", "FE FF FF EB", 1);
        check.thereAndBack(3, -16, "02 00 00 EB", "00 00 00 EB", 1);
    }

    private static void placeGoesRound(Check check) {
        check.sentence("A FILTER has a PLACE (32 bits, going round)");
        check.thereAndBack(3, -8, "00 00 00 EB 00 00 00 EB 00 00 00 EB", "00 00 00 EB 01 00 00 EB 02 00 00 EB", 3);
        check.thereAndBack(3, Integer.MAX_VALUE - 3, "00 00 00 EB 00 00 00 EB", "01 00 00 EB 02 00 00 EB", 2);
        check.oneFilter(3, -1, true, "00 00 00 EB 00 00 00 EB", "01 00 00 EB 02 00 00 EB", 2);
    }

    private static void givesFour(Check check) {
        check.sentence("gives four");
        check.countsBehind(3, "00 00 00 00", "3 1 0 4 0 0");
        check.countsBehind(3, "00 00 00 00 00", "3 1 1 4 0 0");
        check.untouched(3, 0, "00 00 00 00 EB 00 00", "00 00 00 00 00 EB", "00 00 00 00 00 00 EB",
                "00 00 00 00 EB 00 00 00 00 EB 00 00 00 00 EB 00");
    }
}
