import java.util.ArrayList;
import java.util.List;
import java.util.function.IntSupplier;

/** What the tests share: comparing, feeding bytes that are written in hex, and looking at all that came out. */
final class Check {
    // Bytes that each kind finds branches in.
    static final String CODE = "E8 E8 11 22 33 00 EB EB 48 00 12 01 00 F0 12 F8 40 01 02 03 7F FF FE FD "
            + "97 00 00 00 E7 80 10 20 EF 00 01 02 10 20 30 EB E9 00 00 00 FF 90 90 E8 01 02 03 00 "
            + "6F 00 17 01 00 00 03 31 41 51 00 F7 FF FF 4B FF "
            + "EF 02 30 40 97 00 00 10 E7 80 F0 FF 48 01 02 05 00 F1 22 FB 7F C0 10 20 E8 E9 E8 11 22 33 44 00 "
            + "E8 90 90 E8 F7 00 00 00 11 22 33 EB 00 F0 00 F8 E8 00 EB 97 02 00 00 83 FF 02 00 40 00 00 10 E8";

    private static final int MOST = 2000;

    private int wrong = 0;
    private String sentence = "";

    /** The words of the document that the checks behind this hold the class to. */
    void sentence(String words) {
        sentence = words;
    }

    void same(String what, long got, long want) {
        if (got != want) {
            tell(what + " answered " + got + ", due is " + want);
        }
    }

    void same(String what, String got, String want) {
        if (!got.equals(want)) {
            tell(what + " gave " + got + ", due is " + want);
        }
    }

    void throwsIt(String what, Class<? extends RuntimeException> due, Runnable call) {
        try {
            call.run();
        } catch (RuntimeException e) {
            if (e.getClass() != due) {
                tell(what + " threw " + e.getClass().getName() + ", due is " + due.getName());
            }
            return;
        }
        tell(what + " threw nothing, due is " + due.getName());
    }

    void illegalArgument(String what, Runnable call) {
        throwsIt(what, IllegalArgumentException.class, call);
    }

    void illegalState(String what, Runnable call) {
        throwsIt(what, IllegalStateException.class, call);
    }

    void indexOutOfBounds(String what, Runnable call) {
        throwsIt(what, IndexOutOfBoundsException.class, call);
    }

    /** One filter of the kind in a chain: the bytes in come out as these, with so many numbers put in. */
    void oneFilter(int kind, int start, boolean encoding, String in, String due, int replaced) {
        String what = "kind " + kind + ", start " + start + (encoding ? ", encoding " : ", decoding ") + in;
        BranchFilters x = fed(kind, start, encoding, in);
        x.finish();
        same(what, hex(outputs(x)), hex(bytes(due)));
        same(what + ": numbers put in", x.count(0, 4), replaced);
    }

    /** Encoding gives these bytes, and decoding gives the first ones back. */
    void thereAndBack(int kind, int start, String plain, String encoded, int replaced) {
        oneFilter(kind, start, true, plain, encoded, replaced);
        oneFilter(kind, start, false, encoded, plain, replaced);
    }

    /** The bytes go through as they are, both ways, with no number put in. */
    void untouched(int kind, int start, String... ins) {
        for (String in : ins) {
            thereAndBack(kind, start, in, in, 0);
        }
    }

    /** The counts of one filter of the kind behind these bytes, before the finish. */
    void countsBehind(int kind, String in, String due) {
        same("kind " + kind + ", counts behind " + in, counts(fed(kind, 0, true, in), 0), due);
    }

    void end() {
        if (wrong != 0) {
            System.out.println(wrong + " answers are not as due");
            System.exit(1);
        }
    }

    private void tell(String text) {
        wrong++;
        if (wrong <= 50) {
            System.out.println((sentence.isEmpty() ? "" : "[" + sentence + "] ") + text);
        }
    }

    /** A new object whose filter 0 is of the kind, with the bytes fed and no finish yet. */
    static BranchFilters fed(int kind, int start, boolean encoding, String in) {
        BranchFilters x = new BranchFilters();
        x.filter(0, kind, 1);
        x.begin(start, encoding);
        feed(x, bytes(in), 16);
        return x;
    }

    /** A new object with these four kinds. */
    static BranchFilters chain(int first, int second, int third, int fourth) {
        BranchFilters x = new BranchFilters();
        x.filter(0, first, 1);
        x.filter(1, second, 1);
        x.filter(2, third, 1);
        x.filter(3, fourth, 1);
        return x;
    }

    /** Feeds all bytes in pieces of the size told, and answers what the last feed answered. */
    static int feed(BranchFilters x, int[] bytes, int piece) {
        int answer = 0;
        for (int from = 0; from < bytes.length; from += piece) {
            answer = feedPiece(x, bytes, from, Math.min(piece, bytes.length - from));
        }
        return answer;
    }

    static int feed(BranchFilters x, String in) {
        return feed(x, bytes(in), 16);
    }

    static int feedPiece(BranchFilters x, int[] bytes, int from, int many) {
        int[] numbers = new int[4];
        for (int i = 0; i < many; i++) {
            numbers[i / 4] |= bytes[from + i] << (24 - 8 * (i % 4));
        }
        return x.feed(many, numbers[0], numbers[1], numbers[2], numbers[3]);
    }

    /** All bytes of the output, by words as far as they go: an object has 512 calls alone. */
    static int[] outputs(BranchFilters x) {
        List<Integer> all = new ArrayList<>();
        boolean more = true;
        while (more && all.size() <= MOST) {
            more = addWord(x, all);
        }
        for (int i = 0; i < 4 && x.output(all.size()) != BranchFilters.NONE; i++) {
            all.add(x.output(all.size()));
        }
        return all.stream().mapToInt(b -> b).toArray();
    }

    private static boolean addWord(BranchFilters x, List<Integer> all) {
        try {
            int word = x.word(all.size());
            for (int i = 0; i < 4; i++) {
                all.add(word >>> 8 * i & 0xFF);
            }
            return true;
        } catch (IndexOutOfBoundsException e) {
            return false;
        }
    }

    static String output(BranchFilters x) {
        return hex(outputs(x));
    }

    static int[] bytes(String hex) {
        String close = hex.replace(" ", "");
        int[] bytes = new int[close.length() / 2];
        for (int i = 0; i < bytes.length; i++) {
            bytes[i] = Integer.parseInt(close.substring(2 * i, 2 * i + 2), 16);
        }
        return bytes;
    }

    static String hex(int... bytes) {
        StringBuilder text = new StringBuilder();
        for (int b : bytes) {
            text.append(text.length() == 0 ? "" : " ").append(String.format("%02X", b));
        }
        return text.toString();
    }

    /** All six counts of a filter, as one text. */
    static String counts(BranchFilters x, int filter) {
        StringBuilder text = new StringBuilder();
        for (int what = 0; what <= 5; what++) {
            text.append(what == 0 ? "" : " ").append(x.count(filter, what));
        }
        return text.toString();
    }

    static String allCounts(BranchFilters x) {
        return counts(x, 0) + " | " + counts(x, 1) + " | " + counts(x, 2) + " | " + counts(x, 3);
    }

    /** What the call answers, or the name of what it throws. */
    static String answer(IntSupplier call) {
        try {
            return Integer.toString(call.getAsInt());
        } catch (RuntimeException e) {
            return e.getClass().getSimpleName();
        }
    }
}
