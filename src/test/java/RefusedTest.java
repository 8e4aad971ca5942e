import java.util.ArrayList;
import java.util.List;
import java.util.function.Consumer;
import java.util.function.Supplier;

/**
 * "IllegalArgument is thrown where a number is none of those told here. What throws changes nothing."
 * Each refused call comes to an object in each state; a twin does without it, and both must go on alike.
 */
public final class RefusedTest {
    private static final int LOW = Integer.MIN_VALUE;
    private static final int HIGH = Integer.MAX_VALUE;

    private record Refused(String name, Class<? extends RuntimeException> due, Consumer<BranchFilters> call) { }

    private record State(String name, Supplier<BranchFilters> make) { }

    public static void main(String[] args) {
        Check check = new Check();
        for (State state : states()) {
            numbersThatAreNone(check, state);
            wordsThatAreNotThere(check, state);
        }
        feedsThatComeTooLate(check);
        feedsThatAreTooMany(check);
        finishesThatComeAgain(check);
        check.end();
    }

    private static List<State> states() {
        return List.of(
                new State("new", BranchFilters::new),
                new State("encoding", () -> halfWay(true)),
                new State("decoding", () -> halfWay(false)),
                new State("behind 1999", () -> came(1999)),
                new State("behind 2000", () -> came(2000)),
                new State("finished", () -> finished(halfWay(true))),
                new State("finished and empty", () -> finished(new BranchFilters())),
                new State("finished and full", () -> finished(came(2000))));
    }

    // Three hold bytes, DELTA has had some, and X86 has a MASK: encoding it is the first one, decoding the last.
    private static BranchFilters halfWay(boolean encoding) {
        BranchFilters x = new BranchFilters();
        x.filter(0, 2, 9);
        x.filter(1, 7, 8);
        x.filter(2, 4, 7);
        x.filter(3, 1, 6);
        x.begin(-20, encoding);
        Check.feed(x, "01 02 03 04 E8 00 10 00 00 EF 00 00 00 00 F0 00 F8 05 06 07 E8 11 22 E8 33");
        Check.feed(x, "01 02 03 E8 04 05 06 07 E8 E8 E8 11 22 33 00");
        return x;
    }

    private static BranchFilters came(int many) {
        BranchFilters x = new BranchFilters();
        x.filter(2, 7, 3);
        x.filter(1, 2, 4);
        x.begin(0x1000, false);
        Check.feed(x, new int[many], 16);
        return x;
    }

    private static BranchFilters finished(BranchFilters x) {
        x.finish();
        return x;
    }

    private static void numbersThatAreNone(Check check, State state) {
        check.sentence("IllegalArgument is thrown where a number is none of those told here. What throws changes nothing.");
        List<Refused> all = new ArrayList<>();
        for (int filter : new int[] {-1, 4, LOW, HIGH}) {
            all.add(badFilter(filter, 1, 1));
            all.add(badCount(filter, 0));
            all.add(badCount(filter, 5));
        }
        for (int kind : new int[] {-1, 8, LOW, HIGH}) {
            all.add(badFilter(0, kind, 1));
            all.add(badFilter(3, kind, 32));
        }
        for (int distance : new int[] {0, 33, -1, LOW, HIGH}) {
            for (int kind = 0; kind < 8; kind++) {
                all.add(badFilter(kind % 4, kind, distance));
            }
        }
        all.add(badFilter(-1, 8, 0));
        for (int what : new int[] {-1, 6, LOW, HIGH}) {
            all.add(badCount(0, what));
            all.add(badCount(3, what));
        }
        for (int many : new int[] {-1, 17, 2000, 2001, LOW, HIGH}) {
            all.add(badFeed(many, IllegalArgumentException.class));
        }
        for (Refused refused : all) {
            changesNothing(check, state, refused);
        }
    }

    private static void wordsThatAreNotThere(Check check, State state) {
        check.sentence("IndexOutOfBounds: not all four are there. What throws changes nothing.");
        BranchFilters seen = state.make().get();
        // The last one has given the fewest, whichever way they go.
        int size = Math.min(seen.count(0, 3), seen.count(3, 3));
        for (int k : new int[] {-1, -4, size - 3, size - 2, size - 1, size, size + 1, 1997, 2000, LOW, HIGH, HIGH - 3}) {
            changesNothing(check, state, new Refused("word(" + k + ")", IndexOutOfBoundsException.class, x -> x.word(k)));
        }
    }

    private static void feedsThatComeTooLate(Check check) {
        check.sentence("IllegalState: since the beginning more than 2000 would have come in, or there was the FINISH. "
                + "What throws changes nothing.");
        for (State state : states()) {
            if (state.name().startsWith("finished")) {
                for (int many = 0; many <= 16; many++) {
                    changesNothing(check, state, badFeed(many, IllegalStateException.class));
                }
            }
        }
    }

    private static void feedsThatAreTooMany(Check check) {
        check.sentence("IllegalState: since the beginning more than 2000 would have come in, or there was the FINISH. "
                + "What throws changes nothing.");
        for (int before = 1984; before <= 2000; before++) {
            int already = before;
            State state = new State("behind " + before, () -> came(already));
            for (int many = 2001 - before; many <= 16; many++) {
                changesNothing(check, state, badFeed(many, IllegalStateException.class));
            }
        }
    }

    private static void finishesThatComeAgain(Check check) {
        check.sentence("IllegalState: there was one since the beginning. What throws changes nothing.");
        for (State state : states()) {
            if (state.name().startsWith("finished")) {
                changesNothing(check, state, new Refused("finish()", IllegalStateException.class, x -> x.finish()));
            }
        }
    }

    private static Refused badFilter(int filter, int kind, int distance) {
        return new Refused("filter(" + filter + ", " + kind + ", " + distance + ")", IllegalArgumentException.class,
                x -> x.filter(filter, kind, distance));
    }

    private static Refused badCount(int filter, int what) {
        return new Refused("count(" + filter + ", " + what + ")", IllegalArgumentException.class, x -> x.count(filter, what));
    }

    private static Refused badFeed(int many, Class<? extends RuntimeException> due) {
        return new Refused("feed(" + many + ")", due, x -> x.feed(many, 0xE8E8EB48, 0x17F0F87F, -1, 1));
    }

    private static void changesNothing(Check check, State state, Refused refused) {
        BranchFilters x = state.make().get();
        BranchFilters twin = state.make().get();
        String what = state.name() + ": " + refused.name();
        check.throwsIt(what, refused.due(), () -> refused.call().accept(x));
        check.throwsIt(what + " once more", refused.due(), () -> refused.call().accept(x));
        check.same("behind " + what, goesOn(x), goesOn(twin));
    }

    /** All that can be seen now, of two more feeds and the finish, and of START and the way, which filter keeps. */
    private static String goesOn(BranchFilters x) {
        StringBuilder seen = new StringBuilder(look(x));
        seen.append(Check.answer(() -> x.feed(1, 0xE8000000, 0, 0, 0)));
        seen.append(' ').append(Check.answer(() -> x.feed(16, 0x00F000F8, 0x480001E8, 0x11001001, 0x11000000)));
        seen.append(look(x)).append(Check.answer(x::finish)).append(look(x));
        x.filter(2, 3, 5);
        x.filter(3, 0, 5);
        seen.append(look(x));
        seen.append(Check.answer(() -> x.feed(12, 0x112233EB, 0x445566EB, 0x778899EB, 0)));
        seen.append(' ').append(Check.answer(x::finish)).append(look(x));
        return seen.toString();
    }

    private static String look(BranchFilters x) {
        StringBuilder seen = new StringBuilder("\n");
        for (int filter = 0; filter < 4; filter++) {
            seen.append(Check.counts(x, filter)).append(" | ");
        }
        for (int k = 0; k < 64; k += 4) {
            int from = k;
            seen.append(Check.answer(() -> x.word(from))).append(' ');
        }
        for (int k : new int[] {0, 1, 2, 3, 1983, 1999, 2000}) {
            seen.append(x.output(k)).append(' ');
        }
        return seen.append('\n').toString();
    }
}
