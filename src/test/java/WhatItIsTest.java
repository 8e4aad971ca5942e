import java.util.ArrayList;
import java.util.List;

/** The section "What it is" of the document, sentence by sentence. */
public final class WhatItIsTest {
    private static final int[][] CHAINS = {{0, 0, 0, 0}, {1, 0, 0, 0}, {2, 0, 0, 0}, {3, 0, 0, 0}, {4, 0, 0, 0},
        {5, 0, 0, 0}, {6, 0, 0, 0}, {7, 0, 0, 0}, {2, 3, 4, 1}, {7, 7, 7, 7}, {1, 2, 7, 4}, {2, 2, 2, 2}, {5, 6, 7, 2}};

    public static void main(String[] args) {
        Check check = new Check();
        theyPutWhereItGoesTo(check);
        andBack(check);
        andBackAsFarAsTheBitsGo(check);
        fourOneBehindTheOther(check);
        howeverTheyAreCut(check);
        fiveHundredAndTwelveCalls(check);
        check.end();
    }

    // Two branches to one place, eight bytes apart: what tells how far differs by it, what tells where to is the same.
    private static void theyPutWhereItGoesTo(Check check) {
        check.sentence("where a jump or a call tells how far it goes they put where it goes to, and back");
        check.thereAndBack(2, 0x100, "E8 10 00 00 00 90 90 90 E8 08 00 00 00", "E8 15 01 00 00 90 90 90 E8 15 01 00 00", 2);
        check.thereAndBack(3, 0x100, "10 00 00 EB 00 00 00 00 0E 00 00 EB", "52 00 00 EB 00 00 00 00 52 00 00 EB", 2);
        check.thereAndBack(4, 0x100, "00 F0 10 F8 00 00 00 00 00 F0 0C F8", "00 F0 92 F8 00 00 00 00 00 F0 92 F8", 2);
        check.thereAndBack(5, 0x100, "48 00 00 11 00 00 00 00 48 00 00 09", "48 00 01 11 00 00 00 00 48 00 01 11", 2);
        check.thereAndBack(6, 0x100, "40 00 00 10 00 00 00 00 40 00 00 0E", "40 00 00 50 00 00 00 00 40 00 00 50", 2);
        check.thereAndBack(7, 0x100, "EF 00 00 01 00 00 00 00 EF 00 80 00 00 00 00 00",
                "EF 00 00 11 00 00 00 00 EF 00 00 11 00 00 00 00", 2);
    }

    // Where the bits that a kind leaves out are 0 in each place nothing is lost.
    private static void andBack(Check check) {
        check.sentence("they put where it goes to, and back");
        int[] multiples = {1, 1, 1, 4, 2, 4, 4, 2};
        for (int[] kinds : CHAINS) {
            int multiple = 1;
            for (int kind : kinds) {
                multiple = Math.max(multiple, multiples[kind]);
            }
            for (int times = -40; times <= 40; times++) {
                comesBack(check, kinds, times * multiple);
                comesBack(check, kinds, Integer.MIN_VALUE + times * multiple);
            }
        }
    }

    private static void comesBack(Check check, int[] kinds, int start) {
        int[] code = Check.bytes(Check.CODE);
        BranchFilters x = Check.chain(kinds[0], kinds[1], kinds[2], kinds[3]);
        x.begin(start, true);
        Check.feed(x, code, 16);
        x.finish();
        int[] there = Check.outputs(x);
        x.begin(start, false);
        Check.feed(x, there, 16);
        x.finish();
        check.same(kinds[0] + " " + kinds[1] + " " + kinds[2] + " " + kinds[3] + " from " + start, Check.output(x), Check.hex(code));
    }

    // From a START in between, the words of each kind leave out a part of its place: the way back ends one before.
    private static void andBackAsFarAsTheBitsGo(Check check) {
        check.sentence("its lowest two bits and highest six are left out, and it stands there again");
        thereAndThen(check, 3, 1, "00 00 00 EB", "02 00 00 EB", "FF FF FF EB");
        check.sentence("2 n is moved by m = p + 4, halved, its 22 lowest bits stand there again");
        thereAndThen(check, 4, 1, "00 F0 00 F8", "00 F0 02 F8", "FF F7 FF FF");
        check.sentence("the bits that are n's stand there again");
        thereAndThen(check, 5, 2, "48 00 00 01", "48 00 00 01", "4B FF FF FD");
        check.sentence("times 4 is moved by m = p, divided by 4 (without a sign)");
        thereAndThen(check, 6, 3, "40 00 00 00", "40 00 00 00", "7F FF FF FF");
        check.sentence("the bits 20 .. 1 of a number are the bits 31, 19 .. 12, 20, 30 .. 21 of w");
        thereAndThen(check, 7, 1, "EF 00 00 00 00 00 00 00", "EF 00 00 00 00 00 00 00", "EF F0 FF FF 00 00 00 00");
    }

    private static void thereAndThen(Check check, int kind, int start, String plain, String encoded, String decoded) {
        check.oneFilter(kind, start, true, plain, encoded, 1);
        check.oneFilter(kind, start, false, encoded, decoded, 1);
    }

    // Four that each add 0, 4, 8 .. to the same numbers: the last one gives four times as much, or takes it away.
    private static void fourOneBehindTheOther(Check check) {
        check.sentence("four of them may stand one behind the other");
        BranchFilters x = Check.chain(5, 5, 5, 5);
        Check.feed(x, "48 00 00 01 48 00 00 01 48 00 00 01");
        check.same("POWER four times", Check.output(x), "48 00 00 01 48 00 00 11 48 00 00 21");
        check.same("counts", Check.allCounts(x), "5 1 0 12 3 0 | 5 1 0 12 3 0 | 5 1 0 12 3 0 | 5 1 0 12 3 0");
        x.begin(0, false);
        Check.feed(x, "48 00 00 01 48 00 00 11 48 00 00 21");
        check.same("and back", Check.output(x), "48 00 00 01 48 00 00 01 48 00 00 01");
    }

    private static void howeverTheyAreCut(Check check) {
        check.sentence("bytes come in pieces, and what comes out is the same however they are cut");
        for (int[] kinds : CHAINS) {
            for (int way = 0; way < 2; way++) {
                String due = cut(kinds, way == 0, 16, 16);
                for (int first = 1; first <= 16; first++) {
                    check.same("pieces of " + first, cut(kinds, way == 0, first, first), due);
                    check.same("pieces of " + first + " and 1", cut(kinds, way == 0, first, 1), due);
                    check.same("pieces of " + first + " and 0", cut(kinds, way == 0, first, 0), due);
                }
            }
        }
    }

    /** What comes out, and the counts, if pieces of the two sizes come in turn. */
    private static String cut(int[] kinds, boolean encoding, int first, int second) {
        int[] code = Check.bytes(Check.CODE);
        BranchFilters x = Check.chain(kinds[0], kinds[1], kinds[2], kinds[3]);
        x.begin(-60, encoding);
        int from = 0;
        for (int i = 0; from < code.length; i++) {
            int many = Math.min(i % 2 == 0 ? first : second, code.length - from);
            Check.feedPiece(x, code, from, many);
            from += many;
        }
        String before = Check.allCounts(x);
        return before + " : " + x.finish() + " : " + Check.output(x) + " : " + Check.allCounts(x);
    }

    // 4 for the chain, 1 begin, 125 feeds, 1 finish, and 381 looks at the output: the last one is the 512th.
    private static void fiveHundredAndTwelveCalls(Check check) {
        check.sentence("An object is used for at most 512 calls after it has been made");
        int[] code = Check.bytes(Check.CODE);
        BranchFilters x = Check.chain(2, 7, 4, 1);
        x.begin(-1000, true);
        List<Integer> came = new ArrayList<>();
        for (int i = 0; i < 2000; i++) {
            came.add(code[i % code.length] + i / 50 & 0xFF);
        }
        Check.feed(x, came.stream().mapToInt(b -> b).toArray(), 16);
        List<Integer> due = Reference.run(new int[] {2, 7, 4, 1}, new int[] {1, 1, 1, 1}, -1000, true, came, true, new String[4]);
        check.same("finish", x.finish(), 2000);
        for (int k = 2000 - 381; k < 2000; k++) {
            check.same("output(" + k + ")", x.output(k), due.get(k));
        }
    }
}
