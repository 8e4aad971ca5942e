/** The section "Terms" of the document, but for the kinds: sentence by sentence, at the edges. */
public final class TermsTest {
    public static void main(String[] args) {
        Check check = new Check();
        fourFilters(check);
        encodingGoesFromZeroToThree(check);
        decodingGoesFromThreeToZero(check);
        outputOfTwoThousand(check);
        outputOfTheLastOneAlone(check);
        eachHasAPlaceOfItsOwn(check);
        placeCountsWhatWasGiven(check);
        holdsAndGivesAsManyAsItCan(check);
        holdsAtMost(check);
        nothingComesNothingGoes(check);
        finishGivesTheRestAsItIs(check);
        finishInTheOrderInWhichBytesGo(check);
        finishOfFourThatHold(check);
        finishWithNothingHeld(check);
        check.end();
    }

    private static void fourFilters(Check check) {
        check.sentence("A CHAIN has four FILTERS, 0 .. 3.");
        BranchFilters x = Check.chain(4, 5, 6, 7);
        check.same("their kinds", Check.allCounts(x), "4 1 0 0 0 0 | 5 1 0 0 0 0 | 6 1 0 0 0 0 | 7 1 0 0 0 0");
        for (int filter : new int[] {-1, 4, Integer.MIN_VALUE, Integer.MAX_VALUE}) {
            check.illegalArgument("filter " + filter, () -> x.filter(filter, 0, 1));
            check.illegalArgument("count of " + filter, () -> x.count(filter, 0));
        }
        check.same("their kinds", Check.allCounts(x), "4 1 0 0 0 0 | 5 1 0 0 0 0 | 6 1 0 0 0 0 | 7 1 0 0 0 0");
    }

    // ARM makes 10 to 12 before or behind DELTA; where it stands behind, b3 must become EB first.
    private static void encodingGoesFromZeroToThree(Check check) {
        check.sentence("ENCODING, what comes in goes through FILTER 0 first, what that gives through 1, and so on");
        int[][] armFirst = {{3, 1, 0, 0}, {3, 0, 1, 0}, {3, 0, 0, 1}, {0, 3, 1, 0}, {0, 3, 0, 1}, {0, 0, 3, 1}};
        for (int[] k : armFirst) {
            BranchFilters x = Check.chain(k[0], k[1], k[2], k[3]);
            Check.feed(x, "10 20 30 EB");
            check.same("ARM, DELTA", Check.output(x), "12 0E 10 BB");
            x = Check.chain(k[3], k[2], k[1], k[0]);
            Check.feed(x, "10 20 30 1B");
            check.same("DELTA, ARM", Check.output(x), "12 10 10 EB");
        }
    }

    private static void decodingGoesFromThreeToZero(Check check) {
        check.sentence("DECODING through 3 first, then 2, and so on");
        int[][] armFirst = {{3, 1, 0, 0}, {3, 0, 1, 0}, {3, 0, 0, 1}, {0, 3, 1, 0}, {0, 3, 0, 1}, {0, 0, 3, 1}};
        for (int[] k : armFirst) {
            BranchFilters x = Check.chain(k[0], k[1], k[2], k[3]);
            x.begin(0, false);
            Check.feed(x, "12 0E 10 BB");
            check.same("DELTA back, ARM back", Check.output(x), "10 20 30 EB");
            x = Check.chain(k[3], k[2], k[1], k[0]);
            x.begin(0, false);
            Check.feed(x, "12 10 10 EB");
            check.same("ARM back, DELTA back", Check.output(x), "10 20 30 1B");
        }
    }

    private static void outputOfTwoThousand(Check check) {
        check.sentence("All bytes that come out of the last one are THE OUTPUT, at most 2000.");
        for (int kind = 0; kind < 8; kind++) {
            for (int way = 0; way < 2; way++) {
                BranchFilters x = Check.chain(kind, kind, kind, kind);
                x.begin(0, way == 0);
                for (int i = 0; i < 125; i++) {
                    x.feed(16, 0, 0, 0, 0);
                }
                check.illegalState("kind " + kind + ", one more", () -> x.feed(1, 0, 0, 0, 0));
                check.same("kind " + kind + ", finish", x.finish(), 2000);
                check.same("kind " + kind + ", output(1999)", x.output(1999), 0);
                check.same("kind " + kind + ", output(2000)", x.output(2000), BranchFilters.NONE);
                check.same("kind " + kind + ", word(1996)", x.word(1996), 0);
                check.indexOutOfBounds("kind " + kind + ", word(1997)", () -> x.word(1997));
            }
        }
    }

    private static void outputOfTheLastOneAlone(Check check) {
        check.sentence("All bytes that come out of the last one are THE OUTPUT");
        BranchFilters x = Check.chain(0, 0, 0, 7);
        check.same("feed", Check.feed(x, "01 02 03 04 05 06 07"), 0);
        check.same("output(0)", x.output(0), BranchFilters.NONE);
        check.same("given before the last", x.count(2, 3), 7);
        check.same("given by the last", x.count(3, 3), 0);
        x.begin(0, false);
        check.same("feed, decoding", Check.feed(x, "01 02 03 04 05 06 07"), 0);
        check.same("given by the first", x.count(3, 3), 0);
    }

    // The second one's branch stands at START too, though four bytes were held by the first one for a while.
    private static void eachHasAPlaceOfItsOwn(Check check) {
        check.sentence("A FILTER has a PLACE (32 bits, going round): START at first, one more for each byte that it has given");
        int[] starts = {0x100, -4, Integer.MAX_VALUE - 3};
        String[] due = {"48 00 01 01 48 00 01 05 48 00 01 09", "4B FF FF FD 48 00 00 01 48 00 00 05",
            "4B FF FF FD 48 00 00 01 48 00 00 05"};
        for (int i = 0; i < starts.length; i++) {
            for (int piece = 1; piece <= 16; piece++) {
                BranchFilters x = Check.chain(2, 7, 5, 4);
                x.begin(starts[i], true);
                Check.feed(x, Check.bytes("48 00 00 01 48 00 00 01 48 00 00 01"), piece);
                x.finish();
                check.same("POWER behind two that hold", Check.output(x), due[i]);
            }
        }
    }

    private static void placeCountsWhatWasGiven(Check check) {
        check.sentence("START at first, one more for each byte that it has given");
        check.thereAndBack(2, 0, "90 E8 00 00 00 00 90 E8 00 00 00 00", "90 E8 06 00 00 00 90 E8 0C 00 00 00", 2);
        check.thereAndBack(4, 0, "00 00 00 F0 00 F8 00 00 00 F0 00 F8", "00 00 00 F0 03 F8 00 00 00 F0 06 F8", 2);
        check.thereAndBack(7, 0, "01 00 EF 00 00 00 97 00 00 00 E7 80 00 00 EF 00 00 00 00 00 00 00",
                "01 00 EF 00 20 00 97 00 00 00 E7 80 60 00 EF 00 E0 00 00 00 00 00", 3);
        // It goes on counting over many pieces: the last of 500 jumps stands at 1996.
        BranchFilters x = Check.chain(5, 0, 0, 0);
        for (int i = 0; i < 125; i++) {
            x.feed(16, 0x48000001, 0x48000001, 0x48000001, 0x48000001);
        }
        check.same("byte 1998", x.output(1998), 0x07);
        check.same("byte 1999", x.output(1999), 0xCD);
    }

    private static void holdsAndGivesAsManyAsItCan(Check check) {
        check.sentence("it HOLDS bytes that it has not given yet, and gives as many as it can each time that some come in");
        int[] needed = {1, 1, 5, 4, 4, 4, 4, 8};
        int[] step = {1, 1, 1, 4, 2, 4, 4, 2};
        for (int kind = 0; kind < 8; kind++) {
            BranchFilters x = Check.chain(kind, 0, 0, 0);
            for (int came = 1; came <= 40; came++) {
                int given = came < needed[kind] ? 0 : ((came - needed[kind]) / step[kind] + 1) * step[kind];
                String what = "kind " + kind + ", byte " + came;
                check.same(what, x.feed(1, 0, 0, 0, 0), given);
                check.same(what + ", held", x.count(0, 2), came - given);
                check.same(what + ", given", x.count(0, 3), given);
                check.same(what + ", taken by the next", x.count(1, 3), given);
            }
        }
    }

    private static void holdsAtMost(Check check) {
        check.sentence("it HOLDS bytes that it has not given yet, and gives as many as it can each time that some come in");
        int[] most = {0, 0, 4, 3, 3, 3, 3, 7};
        for (int kind = 0; kind < 8; kind++) {
            int seen = 0;
            BranchFilters x = Check.chain(kind, 0, 0, 0);
            for (int b : Check.bytes(Check.CODE)) {
                x.feed(1, b << 24, 0, 0, 0);
                seen = Math.max(seen, x.count(0, 2));
            }
            check.same("kind " + kind + ", the most held", seen, most[kind]);
        }
    }

    private static void nothingComesNothingGoes(Check check) {
        check.sentence("gives as many as it can each time that some come in");
        BranchFilters x = Check.chain(2, 7, 4, 3);
        Check.feed(x, "E8 E8 11 22 33 44 55 66 77 88 99 AA BB CC DD EE");
        String before = Check.allCounts(x) + Check.output(x);
        for (int i = 0; i < 5; i++) {
            x.feed(0, -1, -1, -1, -1);
        }
        check.same("behind feeds of none", Check.allCounts(x) + Check.output(x), before);
    }

    private static void finishGivesTheRestAsItIs(Check check) {
        check.sentence("At the FINISH each, in the order in which bytes go, gives what it still HOLDS as it is");
        String[] held = {"", "", "E8 10 00 00", "10 00 00", "00 F0 00", "48 00 00", "40 00 00", "EF 00 00 00 01 02 03"};
        for (int kind = 2; kind < 8; kind++) {
            for (int way = 0; way < 2; way++) {
                BranchFilters x = Check.fed(kind, 64, way == 0, held[kind]);
                int many = Check.bytes(held[kind]).length;
                check.same("kind " + kind + ": before", Check.counts(x, 0), kind + " 1 " + many + " 0 0 0");
                check.same("kind " + kind + ": finish", x.finish(), many);
                check.same("kind " + kind + ": bytes", Check.output(x), held[kind]);
                check.same("kind " + kind + ": behind", Check.counts(x, 0), kind + " 1 0 " + many + " 0 0");
            }
        }
    }

    private static void finishInTheOrderInWhichBytesGo(Check check) {
        check.sentence("(the next one first takes it in as bytes that came, then gives what it HOLDS)");
        BranchFilters x = Check.chain(7, 2, 0, 0);
        check.same("feed", Check.feed(x, "E8 00 00 00 00 E8 00"), 0);
        check.same("finish", x.finish(), 7);
        check.same("X86 behind RISC", Check.output(x), "E8 05 00 00 00 E8 00");
        check.same("counts", Check.allCounts(x), "7 1 0 7 0 0 | 2 1 0 7 1 0 | 0 1 0 7 0 0 | 0 1 0 7 0 0");
        x = Check.chain(0, 0, 2, 7);
        x.begin(0, false);
        check.same("feed, decoding", Check.feed(x, "E8 05 00 00 00 E8 05"), 0);
        check.same("finish, decoding", x.finish(), 7);
        check.same("X86 behind RISC, decoding", Check.output(x), "E8 00 00 00 00 E8 05");
        check.same("counts, decoding", Check.allCounts(x), "0 1 0 7 0 0 | 0 1 0 7 0 0 | 2 1 0 7 1 0 | 7 1 0 7 0 0");
        x = Check.chain(2, 3, 1, 0);
        check.same("feed", Check.feed(x, "00 00 00 EB 00 00"), 0);
        check.same("ARM holds two", Check.allCounts(x), "2 1 4 2 0 0 | 3 1 2 0 0 0 | 1 1 0 0 0 0 | 0 1 0 0 0 0");
        check.same("finish", x.finish(), 6);
        check.same("what ARM held and what X86 held is one jump", Check.output(x), "02 FE 00 EB 15 00");
    }

    private static void finishOfFourThatHold(Check check) {
        check.sentence("At the FINISH each, in the order in which bytes go, gives what it still HOLDS as it is "
                + "(the next one first takes it in as bytes that came, then gives what it HOLDS)");
        BranchFilters x = Check.chain(7, 7, 7, 7);
        Check.feed(x, new int[30], 15);
        check.same("before", Check.allCounts(x), "7 1 6 24 0 0 | 7 1 6 18 0 0 | 7 1 6 12 0 0 | 7 1 6 6 0 0");
        check.same("finish", x.finish(), 30);
        check.same("behind", Check.allCounts(x), "7 1 0 30 0 0 | 7 1 0 30 0 0 | 7 1 0 30 0 0 | 7 1 0 30 0 0");
        x = Check.chain(7, 7, 7, 7);
        Check.feed(x, new int[31], 16);
        check.same("seven held", x.count(0, 2), 7);
        check.same("finish", x.finish(), 31);
        x = Check.chain(7, 7, 7, 7);
        Check.feed(x, "EF 00 00 00 01 02 03");
        check.same("finish of seven", x.finish(), 7);
        check.same("as they are", Check.output(x), "EF 00 00 00 01 02 03");
    }

    private static void finishWithNothingHeld(Check check) {
        check.sentence("At the FINISH each, in the order in which bytes go, gives what it still HOLDS as it is");
        for (int kind = 0; kind < 8; kind++) {
            BranchFilters x = Check.chain(kind, kind, kind, kind);
            check.same("finish of kind " + kind, x.finish(), 0);
            check.same("output(0)", x.output(0), BranchFilters.NONE);
        }
        BranchFilters x = Check.chain(3, 5, 6, 0);
        check.same("feed", Check.feed(x, "00 00 00 EB"), 4);
        check.same("finish", x.finish(), 4);
        check.same("output", Check.output(x), "02 00 00 EB");
    }
}
