/** Kind 6, SPARC: sentence by sentence, at the edges, with bytes worked out by hand. */
public final class Kind6SparcTest {
    public static void main(String[] args) {
        Check check = new Check();
        withFour(check);
        onlyWithTheseTopBits(check);
        movedByThePlace(check);
        dividedByFour(check);
        bitTwentyTwoIsTheSign(check);
        highestTwoBits(check);
        numbersGoRound(check);
        placeGoesRound(check);
        givesFour(check);
        check.end();
    }

    private static void withFour(Check check) {
        check.sentence("6 SPARC: with four");
        check.countsBehind(6, "", "6 1 0 0 0 0");
        check.countsBehind(6, "40", "6 1 1 0 0 0");
        check.countsBehind(6, "40 00 00", "6 1 3 0 0 0");
        check.countsBehind(6, "40 00 00 00", "6 1 0 4 1 0");
        check.untouched(6, 0x100, "40 00 00", "7F FF FF", "00 00 00 00 40 00 00");
    }

    private static void onlyWithTheseTopBits(Check check) {
        check.sentence("if b0 is 40h and b1's highest two bits are 00, or b0 is 7Fh and these are 11");
        for (int b = 0; b < 256; b++) {
            String b1 = Check.hex(b) + " 12 34";
            check.oneFilter(6, 0, true, "40 " + b1, "40 " + b1, b < 0x40 ? 1 : 0);
            check.oneFilter(6, 0, true, "7F " + b1, "7F " + b1, b >= 0xC0 ? 1 : 0);
            if (b != 0x40 && b != 0x7F) {
                check.untouched(6, 0x100, Check.hex(b) + " 00 00 00", Check.hex(b) + " FF FF FF");
            }
        }
        check.untouched(6, 0x100, "40 40 00 00", "40 80 00 00", "40 C0 00 00", "40 FF FF FF");
        check.untouched(6, 0x100, "7F 00 00 00", "7F 40 00 00", "7F 80 00 00", "7F BF FF FF");
        check.thereAndBack(6, 0x100, "40 3F FF 00", "40 3F FF 40", 1);
        check.thereAndBack(6, 0x100, "7F C0 00 00", "7F C0 00 40", 1);
    }

    private static void movedByThePlace(Check check) {
        check.sentence("the number of all four, the highest first, times 4 is moved by m = p");
        check.thereAndBack(6, 0, "40 00 00 00 40 00 00 00", "40 00 00 00 40 00 00 01", 2);
        check.thereAndBack(6, 0x40, "40 00 00 10", "40 00 00 20", 1);
        check.thereAndBack(6, 4, "40 00 00 FF", "40 00 01 00", 1);
        check.thereAndBack(6, 4, "40 00 FF FF", "40 01 00 00", 1);
        check.thereAndBack(6, 0, "40 00 01 01", "40 00 01 01", 1);
    }

    private static void dividedByFour(Check check) {
        check.sentence("divided by 4 (without a sign)");
        for (int start = 0; start < 4; start++) {
            check.oneFilter(6, start, true, "40 00 00 00", "40 00 00 00", 1);
        }
        check.oneFilter(6, 4, true, "40 00 00 00", "40 00 00 01", 1);
        for (int start = 1; start <= 4; start++) {
            check.oneFilter(6, start, false, "40 00 00 00", "7F FF FF FF", 1);
        }
        check.oneFilter(6, Integer.MIN_VALUE, true, "40 00 00 05", "40 00 00 05", 1);
        check.oneFilter(6, Integer.MAX_VALUE, true, "40 00 00 00", "7F FF FF FF", 1);
    }

    private static void bitTwentyTwoIsTheSign(Check check) {
        check.sentence("its lowest 22 bits stand there, the next eight are as bit 22 is");
        check.thereAndBack(6, 4, "40 3F FF FE", "40 3F FF FF", 1);
        check.thereAndBack(6, 4, "40 3F FF FF", "7F C0 00 00", 1);
        check.thereAndBack(6, 4, "7F FF FF FE", "7F FF FF FF", 1);
        check.thereAndBack(6, 4, "7F FF FF FF", "40 00 00 00", 1);
        check.thereAndBack(6, 1 << 23, "40 00 00 00", "40 20 00 00", 1);
        check.thereAndBack(6, 1 << 24, "40 00 00 00", "7F C0 00 00", 1);
        check.thereAndBack(6, 1 << 24, "7F C0 00 00", "40 00 00 00", 1);
        for (int bit = 25; bit < 32; bit++) {
            check.thereAndBack(6, 1 << bit, "40 12 34 56", "40 12 34 56", 1);
            check.thereAndBack(6, 1 << bit, "7F D2 34 56", "7F D2 34 56", 1);
        }
    }

    private static void highestTwoBits(Check check) {
        check.sentence("the highest two 01");
        check.oneFilter(6, 0xC0000000, true, "40 00 00 00", "40 00 00 00", 1);
        check.oneFilter(6, 0xC0000000, true, "7F FF FF FF", "7F FF FF FF", 1);
        check.oneFilter(6, 0x40000000, false, "40 00 00 00", "40 00 00 00", 1);
    }

    private static void numbersGoRound(Check check) {
        check.sentence("Numbers are of 32 bits, going round");
        check.thereAndBack(6, -4, "40 00 00 01", "40 00 00 00", 1);
        check.thereAndBack(6, -4, "7F FF FF FF", "7F FF FF FE", 1);
        check.thereAndBack(6, -8, "40 00 00 01", "7F FF FF FF", 1);
    }

    private static void placeGoesRound(Check check) {
        check.sentence("A FILTER has a PLACE (32 bits, going round)");
        check.thereAndBack(6, -4, "40 00 00 00 40 00 00 00 40 00 00 00", "7F FF FF FF 40 00 00 00 40 00 00 01", 3);
        check.thereAndBack(6, Integer.MAX_VALUE - 3, "40 00 00 00 40 00 00 00", "7F FF FF FF 40 00 00 00", 2);
    }

    private static void givesFour(Check check) {
        check.sentence("the highest two 01; gives four");
        check.countsBehind(6, "00 00 00 00 00 00 00", "6 1 3 4 0 0");
        check.countsBehind(6, "40 00 00 00 00 00 00", "6 1 3 4 1 0");
        check.untouched(6, 0x100, "00 40 00 00 00 00 00 00", "00 00 40 00 00 00 00 00", "00 00 00 40 00 00 00 00");
    }
}
