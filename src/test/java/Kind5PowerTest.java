/** Kind 5, POWER: sentence by sentence, at the edges, with bytes worked out by hand. */
public final class Kind5PowerTest {
    public static void main(String[] args) {
        Check check = new Check();
        withFour(check);
        onlyWithTheHigherSixBits(check);
        onlyWithTheLowestTwoBits(check);
        highestFirst(check);
        movedByThePlace(check);
        onlyItsOwnBits(check);
        numbersGoRound(check);
        placeGoesRound(check);
        givesFour(check);
        check.end();
    }

    private static void withFour(Check check) {
        check.sentence("5 POWER: with four");
        check.countsBehind(5, "", "5 1 0 0 0 0");
        check.countsBehind(5, "48", "5 1 1 0 0 0");
        check.countsBehind(5, "48 00 00", "5 1 3 0 0 0");
        check.countsBehind(5, "48 00 00 01", "5 1 0 4 1 0");
        check.untouched(5, 0x100, "48 00 00", "48", "48 00 00 00 48 00 00");
    }

    private static void onlyWithTheHigherSixBits(Check check) {
        check.sentence("if b0's higher six bits are 010010");
        for (int b0 = 0; b0 < 256; b0++) {
            String in = Check.hex(b0) + " 00 00 01";
            if (b0 < 0x48 || b0 > 0x4B) {
                check.untouched(5, 0x100, in);
            } else {
                check.thereAndBack(5, 0x100, in, Check.hex(b0) + " 00 01 01", 1);
            }
        }
        check.untouched(5, 0x100, "47 FF FF 01", "4C 00 00 01", "C8 00 00 01", "68 00 00 01");
    }

    private static void onlyWithTheLowestTwoBits(Check check) {
        check.sentence("and b3's lowest two 01");
        for (int b3 = 0; b3 < 256; b3++) {
            String in = "48 00 00 " + Check.hex(b3);
            if (b3 % 4 != 1) {
                check.untouched(5, 0x100, in);
            } else {
                check.thereAndBack(5, 0x100, in, "48 00 01 " + Check.hex(b3), 1);
            }
        }
    }

    private static void highestFirst(Check check) {
        check.sentence("n is b0, b1, b2, b3, the highest first, without these");
        check.thereAndBack(5, 4, "48 00 00 FD", "48 00 01 01", 1);
        check.thereAndBack(5, 4, "48 00 FF FD", "48 01 00 01", 1);
        check.thereAndBack(5, 4, "48 FF FF FD", "49 00 00 01", 1);
        check.thereAndBack(5, 0x01020304, "48 00 00 01 48 00 00 01", "49 02 03 05 49 02 03 09", 2);
    }

    private static void movedByThePlace(Check check) {
        check.sentence("it is moved by m = p");
        check.thereAndBack(5, 0, "48 00 01 01", "48 00 01 01", 1);
        check.thereAndBack(5, 0x100, "48 00 00 01", "48 00 01 01", 1);
        check.thereAndBack(5, 0, "48 00 00 01 48 00 00 01", "48 00 00 01 48 00 00 05", 2);
        check.oneFilter(5, 4, false, "48 00 00 01", "4B FF FF FD", 1);
    }

    private static void onlyItsOwnBits(Check check) {
        check.sentence("the bits that are n's stand there again");
        for (int start = 0; start < 4; start++) {
            check.oneFilter(5, start, true, "48 00 00 01", "48 00 00 01", 1);
            check.oneFilter(5, start, true, "4B FF FF FD", "4B FF FF FD", 1);
        }
        for (int start = 1; start <= 4; start++) {
            check.oneFilter(5, start, false, "48 00 00 01", "4B FF FF FD", 1);
        }
        check.thereAndBack(5, 4, "4B FF FF FD", "48 00 00 01", 1);
        check.thereAndBack(5, 0x100, "4B FF FF FD", "48 00 00 FD", 1);
        check.thereAndBack(5, 1 << 25, "48 00 00 01", "4A 00 00 01", 1);
        for (int bit = 26; bit < 32; bit++) {
            check.thereAndBack(5, 1 << bit, "49 23 45 65", "49 23 45 65", 1);
        }
    }

    private static void numbersGoRound(Check check) {
        check.sentence("Numbers are of 32 bits, going round");
        check.thereAndBack(5, -4, "48 00 00 05", "48 00 00 01", 1);
        check.thereAndBack(5, -4, "4B FF FF FD", "4B FF FF F9", 1);
        check.thereAndBack(5, Integer.MIN_VALUE, "48 00 02 01", "48 00 02 01", 1);
    }

    private static void placeGoesRound(Check check) {
        check.sentence("A FILTER has a PLACE (32 bits, going round)");
        check.thereAndBack(5, -4, "48 00 00 01 48 00 00 01 48 00 00 01", "4B FF FF FD 48 00 00 01 48 00 00 05", 3);
        check.thereAndBack(5, Integer.MAX_VALUE - 3, "48 00 00 01 48 00 00 01", "4B FF FF FD 48 00 00 01", 2);
    }

    private static void givesFour(Check check) {
        check.sentence("gives four");
        check.countsBehind(5, "00 00 00 00 00 00 00", "5 1 3 4 0 0");
        check.countsBehind(5, "48 00 00 01 00 00 00", "5 1 3 4 1 0");
        check.untouched(5, 0x100, "00 48 00 00 01 00 00 00", "00 00 48 00 00 01 00 00", "00 00 00 48 00 00 01 00");
    }
}
