/** The kinds but X86, with bytes worked out by hand from the document. */
public final class KindsTest {
    public static void main(String[] args) {
        Check check = new Check();
        delta(check);
        arm(check);
        thumb(check);
        power(check);
        sparc(check);
        riscJumps(check);
        riscPairs(check);
        check.end();
    }

    private static void delta(Check check) {
        check.thereAndBack(1, 0, "01 03 06 02 FF 00", "01 02 03 FC FD 01", 0);
        for (int distance = 1; distance <= 32; distance++) {
            BranchFilters x = new BranchFilters();
            x.filter(0, 1, distance);
            int[] bytes = new int[80];
            int[] due = new int[80];
            for (int i = 0; i < 80; i++) {
                bytes[i] = i * i * 7 + 200 & 0xFF;
                due[i] = bytes[i] - (i < distance ? 0 : bytes[i - distance]) & 0xFF;
            }
            Check.feed(x, bytes, 16);
            check.same("DELTA, distance " + distance, Check.hex(Check.outputs(x)), Check.hex(due));
            x.begin(77, false);
            Check.feed(x, due, 16);
            check.same("and back", Check.hex(Check.outputs(x)), Check.hex(bytes));
        }
    }

    private static void arm(Check check) {
        check.thereAndBack(3, 0x1000, "01 02 03 EB", "03 06 03 EB", 1);
        check.thereAndBack(3, 0, "FF FF FF EB", "01 00 00 EB", 1);
        check.thereAndBack(3, 0, "00 00 00 EB 00 00 00 EB", "02 00 00 EB 03 00 00 EB", 2);
        check.thereAndBack(3, 0xFC000000, "00 00 00 EB", "02 00 00 EB", 1);
        check.oneFilter(3, 0, false, "00 00 00 EB", "FE FF FF EB", 1);
        check.oneFilter(3, 1, true, "00 00 00 EB", "02 00 00 EB", 1);
        check.oneFilter(3, 1, false, "00 00 00 EB", "FD FF FF EB", 1);
        check.oneFilter(3, 0, true, "EB 02 03 EA EB EB EB EC", "EB 02 03 EA EB EB EB EC", 0);
        check.oneFilter(3, 0, true, "EB EB EB 00 00 00 EB", "EB EB EB 00 00 00 EB", 0);
    }

    private static void thumb(Check check) {
        check.thereAndBack(4, 0, "00 F0 00 F8", "00 F0 02 F8", 1);
        check.thereAndBack(4, 0, "FF F7 FF FF", "00 F0 01 F8", 1);
        check.thereAndBack(4, 0xFFC, "00 F0 00 F8", "01 F0 00 F8", 1);
        check.thereAndBack(4, 0x1FC, "00 F0 00 F8", "00 F0 00 F9", 1);
        check.thereAndBack(4, 0xFFFFC, "00 F0 00 F8", "00 F1 00 F8", 1);
        check.thereAndBack(4, 0x7FFFFC, "00 F0 00 F8", "00 F0 00 F8", 1);
        check.thereAndBack(4, 0, "11 22 00 F0 00 F8", "11 22 00 F0 03 F8", 1);
        check.oneFilter(4, 0, false, "00 F0 00 F8", "FF F7 FE FF", 1);
        check.oneFilter(4, 1, true, "00 F0 00 F8", "00 F0 02 F8", 1);
        check.oneFilter(4, 1, false, "00 F0 00 F8", "FF F7 FD FF", 1);
        check.oneFilter(4, 0, true, "00 F8 00 F8", "00 F8 00 F8", 0);
        check.oneFilter(4, 0, true, "00 F0 00 F0 00 F7", "00 F0 00 F0 00 F7", 0);
        check.oneFilter(4, 0, true, "00 EF 00 FF", "00 EF 00 FF", 0);
        check.oneFilter(4, 0, true, "00 00 F0 00 F8 00", "00 00 F0 00 F8 00", 0);
    }

    private static void power(Check check) {
        check.thereAndBack(5, 0x100, "48 00 00 01", "48 00 01 01", 1);
        check.thereAndBack(5, 0x100, "4B FF FF FD", "48 00 00 FD", 1);
        check.thereAndBack(5, 0x01020304, "48 00 00 01 48 00 00 01", "49 02 03 05 49 02 03 09", 2);
        check.oneFilter(5, 4, false, "48 00 00 01", "4B FF FF FD", 1);
        check.oneFilter(5, 1, true, "48 00 00 01", "48 00 00 01", 1);
        check.oneFilter(5, 3, true, "48 00 00 FD", "48 00 00 FD", 1);
        check.oneFilter(5, 1, false, "48 00 00 01", "4B FF FF FD", 1);
        for (String other : new String[] {"48 00 00 00", "48 00 00 02", "48 00 00 03", "4C 00 00 01", "44 00 00 01", "C8 00 00 01"}) {
            check.oneFilter(5, 0x100, true, other, other, 0);
        }
        check.oneFilter(5, 0x100, true, "00 48 00 00 01 00 00 00", "00 48 00 00 01 00 00 00", 0);
    }

    private static void sparc(Check check) {
        check.thereAndBack(6, 0x40, "40 00 00 10", "40 00 00 20", 1);
        check.thereAndBack(6, 4, "7F FF FF FF", "40 00 00 00", 1);
        check.thereAndBack(6, 4, "40 3F FF FF", "7F C0 00 00", 1);
        check.thereAndBack(6, 0, "40 00 00 00 40 00 00 00", "40 00 00 00 40 00 00 01", 2);
        check.thereAndBack(6, 0x01000000, "7F C0 00 00", "40 00 00 00", 1);
        check.thereAndBack(6, 0x02000000, "7F C0 00 00", "7F C0 00 00", 1);
        check.oneFilter(6, 3, true, "40 00 00 00", "40 00 00 00", 1);
        check.oneFilter(6, 3, false, "40 00 00 00", "7F FF FF FF", 1);
        for (String other : new String[] {"40 40 00 00", "40 80 00 00", "40 C0 00 00", "7F 00 00 00", "7F 40 00 00",
            "7F 80 00 00", "41 00 00 00", "00 00 00 00", "7E C0 00 00", "FF FF FF FF", "C0 00 00 00"}) {
            check.oneFilter(6, 0x100, true, other, other, 0);
        }
    }

    private static void riscJumps(Check check) {
        String rest = " 00 00 00 00";
        String[] bits = {"EF 00 20 00", "EF 00 40 00", "EF 00 80 00", "EF 00 00 01", "EF 00 00 02", "EF 00 00 04",
            "EF 00 00 08", "EF 00 00 10", "EF 00 00 20", "EF 00 00 40", "EF 00 10 00", "EF 10 00 00", "EF 20 00 00",
            "EF 40 00 00", "EF 80 00 00", "EF 00 01 00", "EF 00 02 00", "EF 00 04 00", "EF 00 08 00", "EF 00 00 80"};
        for (int bit = 1; bit <= 20; bit++) {
            check.thereAndBack(7, 1 << bit, "EF 00 00 00" + rest, bits[bit - 1] + rest, 1);
        }
        check.oneFilter(7, 1 << 21, true, "EF 00 00 00" + rest, "EF 00 00 00" + rest, 1);
        check.oneFilter(7, 1, true, "EF 00 00 00" + rest, "EF 00 00 00" + rest, 1);
        check.oneFilter(7, 1, false, "EF 00 00 00" + rest, "EF F0 FF FF" + rest, 1);
        check.oneFilter(7, 2, false, "EF 00 00 00" + rest, "EF F0 FF FF" + rest, 1);
        check.thereAndBack(7, 0x200, "EF 02 00 00" + rest, "EF 02 00 20" + rest, 1);
        check.thereAndBack(7, 0x1FC, "EF 00 00 00 EF 02 00 00" + rest, "EF 00 C0 1F EF 02 00 20" + rest, 2);
        check.thereAndBack(7, 0x1FE, "01 00 EF 00 00 00" + rest, "01 00 EF 00 00 20" + rest, 1);
        for (String other : new String[] {"6F 00 00 00", "6F 01 00 00", "EF 01 00 00", "6F 02 00 00", "EF 0E 00 00",
            "6E 00 00 00", "EE 00 00 00"}) {
            check.oneFilter(7, 0x200, true, other + rest, other + rest, 0);
        }
        check.oneFilter(7, 0x200, true, "EF 00 00 00 00 00 00", "EF 00 00 00 00 00 00", 0);
    }

    private static void riscPairs(Check check) {
        check.thereAndBack(7, 0x12345, "97 00 00 00 E7 80 00 00", "97 20 01 00 E7 80 50 34", 1);
        check.thereAndBack(7, 0x12FFF, "97 00 00 00 E7 80 00 00", "97 30 01 00 E7 80 F0 FF", 1);
        check.thereAndBack(7, 0x800, "97 00 00 00 E7 80 00 00", "97 10 00 00 E7 80 00 80", 1);
        check.thereAndBack(7, 0x7FF, "97 00 00 00 E7 80 00 00", "97 00 00 00 E7 80 F0 7F", 1);
        check.thereAndBack(7, 0xFFFFFFFF, "97 00 00 00 E7 80 00 00", "97 00 00 00 E7 80 F0 FF", 1);
        check.thereAndBack(7, 0, "97 10 00 00 E7 80 F0 FF", "97 10 00 00 E7 80 F0 FF", 1);
        check.thereAndBack(7, 1, "97 10 00 00 E7 80 F0 FF", "97 10 00 00 E7 80 00 00", 1);
        check.thereAndBack(7, 0x1000, "17 F1 FF FF 03 31 01 00", "17 01 00 00 03 31 01 00", 1);
        check.thereAndBack(7, 0x1000, "97 0F 00 00 67 80 0F 00", "97 1F 00 00 67 80 0F 00", 1);
        // Not a pair: eight bytes go as they are, a jump among them too.
        for (String other : new String[] {"97 00 00 00 13 80 00 00", "97 00 00 00 E7 00 01 00", "97 00 00 00 E7 00 00 00",
            "97 00 00 00 23 80 00 00", "97 00 00 00 EF 00 00 00", "17 01 00 00 E7 80 00 00", "97 00 00 00 07 80 00 00"}) {
            check.oneFilter(7, 0x200, true, other, other, 0);
            check.oneFilter(7, 0x200, true, other + " 00 00 00 00 00 00 00 00", other + " 00 00 00 00 00 00 00 00", 0);
        }
        // With r = 0 two bytes go, and the jump behind them is found.
        check.thereAndBack(7, 0x200, "17 00 00 00 EF 00 00 00 00 00 00 00", "17 00 00 00 EF 00 40 20 00 00 00 00", 1);
        check.oneFilter(7, 0x200, true, "17 00 00 00 67 00 00 00", "17 00 00 00 67 00 00 00", 0);
        check.oneFilter(7, 0x200, true, "97 00 00 00 E7 80 00", "97 00 00 00 E7 80 00", 0);
        check.thereAndBack(7, 0x1000, "97 00 00 00 E7 80 00 00 97 00 00 00 E7 80 00 00",
                "97 10 00 00 E7 80 00 00 97 10 00 00 E7 80 80 00", 2);
    }
}
