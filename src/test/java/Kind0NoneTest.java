/** Kind 0, NONE: sentence by sentence, at the edges. */
public final class Kind0NoneTest {
    public static void main(String[] args) {
        Check check = new Check();
        everyByteAsItIs(check);
        branchesOfTheOtherKinds(check);
        holdsNothing(check);
        check.end();
    }

    private static void everyByteAsItIs(Check check) {
        check.sentence("0 NONE: gives each byte as it is.");
        StringBuilder all = new StringBuilder();
        for (int b = 0; b < 256; b++) {
            all.append(Check.hex(b)).append(' ');
        }
        check.untouched(0, 0, all.toString(), "", "00", "FF");
        check.untouched(0, -1, all.toString());
    }

    private static void branchesOfTheOtherKinds(Check check) {
        check.sentence("0 NONE: gives each byte as it is.");
        check.untouched(0, 0x1000, "E8 10 00 00 00", "01 02 03 EB", "00 F0 00 F8", "48 00 00 01", "40 00 00 10",
                "EF 00 00 00 00 00 00 00", "97 00 00 00 E7 80 00 00");
    }

    private static void holdsNothing(Check check) {
        check.sentence("0 NONE: gives each byte as it is.");
        check.countsBehind(0, "", "0 1 0 0 0 0");
        check.countsBehind(0, "E8", "0 1 0 1 0 0");
        check.countsBehind(0, "E8 00 00 00 00 00 00 00", "0 1 0 8 0 0");
    }
}
