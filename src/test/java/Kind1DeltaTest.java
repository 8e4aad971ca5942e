/** Kind 1, DELTA: sentence by sentence, at the edges. */
public final class Kind1DeltaTest {
    private static final int LENGTH = 80;

    public static void main(String[] args) {
        Check check = new Check();
        distancesFromOneToThirtyTwo(check);
        noDistanceBesideThem(check);
        encodingLessTheOneThatCame(check);
        zeroWithoutOne(check);
        decodingMoreTheOneThatWasGiven(check);
        bytesGoRound(check);
        everyDistanceThereAndBack(check);
        whereThePlaceGoesRound(check);
        holdsNothing(check);
        check.end();
    }

    private static BranchFilters delta(int distance, int start, boolean encoding) {
        BranchFilters x = new BranchFilters();
        x.filter(0, 1, distance);
        x.begin(start, encoding);
        return x;
    }

    private static void distancesFromOneToThirtyTwo(Check check) {
        check.sentence("1 DELTA, with a distance 1 .. 32");
        for (int distance : new int[] {1, 2, 31, 32}) {
            BranchFilters x = delta(distance, 0, true);
            check.same("distance", x.count(0, 1), distance);
            for (int i = 0; i <= distance; i++) {
                x.feed(1, 0x07000000, 0, 0, 0);
            }
            check.same("distance " + distance + ", the last without one", x.output(distance - 1), 7);
            check.same("distance " + distance + ", the first with one", x.output(distance), 0);
        }
    }

    private static void noDistanceBesideThem(Check check) {
        check.sentence("1 DELTA, with a distance 1 .. 32");
        BranchFilters x = delta(32, 0, true);
        for (int distance : new int[] {0, 33, -1, Integer.MIN_VALUE, Integer.MAX_VALUE}) {
            check.illegalArgument("distance " + distance, () -> x.filter(0, 1, distance));
            check.same("the distance stays", x.count(0, 1), 32);
        }
    }

    private static void encodingLessTheOneThatCame(Check check) {
        check.sentence("ENCODING each byte less the one that came in that many before");
        check.oneFilter(1, 0, true, "01 03 06 0A 0F", "01 02 03 04 05", 0);
        BranchFilters x = delta(3, 0, true);
        Check.feed(x, "10 20 30 11 23 35 13 29 3F");
        check.same("distance 3", Check.output(x), "10 20 30 01 03 05 02 06 0A");
    }

    private static void zeroWithoutOne(Check check) {
        check.sentence("(0 without one)");
        for (int distance = 1; distance <= 32; distance++) {
            for (boolean encoding : new boolean[] {true, false}) {
                BranchFilters x = delta(distance, 5, encoding);
                for (int i = 0; i < distance; i++) {
                    x.feed(1, 200 + i << 24, 0, 0, 0);
                    check.same("distance " + distance + ", byte " + i, x.output(i), 200 + i);
                }
            }
        }
    }

    private static void decodingMoreTheOneThatWasGiven(Check check) {
        check.sentence("DECODING more the one that was given that many before.");
        check.oneFilter(1, 0, false, "01 02 03 04 05", "01 03 06 0A 0F", 0);
        BranchFilters x = delta(3, 0, false);
        Check.feed(x, "10 20 30 01 03 05 02 06 0A");
        check.same("distance 3", Check.output(x), "10 20 30 11 23 35 13 29 3F");
    }

    private static void bytesGoRound(Check check) {
        check.sentence("ENCODING each byte less the one that came in that many before");
        check.thereAndBack(1, 0, "01 00 FF 00 80 7F", "01 FF FF 01 80 FF", 0);
        check.sentence("DECODING more the one that was given that many before.");
        check.oneFilter(1, 0, false, "FF 01 FF FF 80 80", "FF 00 FF FE 7E FE", 0);
    }

    private static void everyDistanceThereAndBack(Check check) {
        check.sentence("ENCODING each byte less the one that came in that many before (0 without one), "
                + "DECODING more the one that was given that many before.");
        for (int distance = 1; distance <= 32; distance++) {
            int[] bytes = new int[LENGTH];
            int[] due = new int[LENGTH];
            for (int i = 0; i < LENGTH; i++) {
                bytes[i] = i * i * 7 + 200 & 0xFF;
                due[i] = bytes[i] - (i < distance ? 0 : bytes[i - distance]) & 0xFF;
            }
            BranchFilters x = delta(distance, 0, true);
            Check.feed(x, bytes, 16);
            check.same("distance " + distance, Check.output(x), Check.hex(due));
            x.begin(77, false);
            Check.feed(x, due, 1 + distance % 16);
            check.same("distance " + distance + " and back", Check.output(x), Check.hex(bytes));
        }
    }

    // START is no part of DELTA: neither the place that goes round nor an odd one changes a byte.
    private static void whereThePlaceGoesRound(Check check) {
        check.sentence("A FILTER has a PLACE (32 bits, going round)");
        for (int start : new int[] {-1, -2, -3, -33, Integer.MAX_VALUE, Integer.MIN_VALUE, 31}) {
            check.thereAndBack(1, start, "01 03 06 0A 0F", "01 02 03 04 05", 0);
            BranchFilters x = delta(32, start, true);
            int[] bytes = new int[34];
            bytes[0] = 1;
            bytes[1] = 2;
            bytes[32] = 5;
            bytes[33] = 9;
            Check.feed(x, bytes, 16);
            check.same("start " + start + ", byte 32", x.output(32), 4);
            check.same("start " + start + ", byte 33", x.output(33), 7);
        }
    }

    private static void holdsNothing(Check check) {
        check.sentence("it HOLDS bytes that it has not given yet");
        check.countsBehind(1, "01", "1 1 0 1 0 0");
        check.countsBehind(1, "01 02 03 04 05 06 07", "1 1 0 7 0 0");
    }
}
