import java.io.IOException;

/**
 * What the tests of boundary cases share: the sentence that is held just now, the answers that are due, and twins by
 * which a refused call shows that nothing happened.
 */
final class Checks {
    static final int NONE = OrderAlgebra.NONE;
    static final long NO = Long.MIN_VALUE;
    /** The calls that a portrait may take: with those that made the object they stay within the document's 512. */
    private static final int MOST_CALLS = 470;

    interface Maker {
        OrderAlgebra made();
    }

    interface Call {
        long on(OrderAlgebra x);
    }

    interface CallWith {
        long on(OrderAlgebra x, int n);
    }

    private final Doc doc;
    private String sentence = "";
    private int check;
    private int wrong;

    Checks() throws IOException {
        doc = new Doc();
    }

    /** What follows would fail if this sentence of a promise were broken. Two named at once are held together. */
    void promise(int number, String words) {
        String named = (number == 0 ? "terms" : "promise " + number) + ", '" + words + "'";
        sentence = check == 0 && !sentence.isEmpty() ? sentence + " and " + named : named;
        check = 0;
        if (!doc.says(number, words)) {
            complain("the document does not say this");
        }
    }

    /** The same for a sentence ahead of the promises. */
    void term(String words) {
        promise(0, words);
    }

    private void complain(String what) {
        wrong++;
        System.out.println(sentence + ", check " + check + ": " + what);
    }

    void due(long want, long got) {
        check++;
        if (want != got) {
            complain("answered " + got + ", due is " + want);
        }
    }

    /** Every call is refused with an answer, and nothing happens: its object is as one that never was asked. */
    void refused(long want, Maker maker, Call... calls) {
        for (Call call : calls) {
            OrderAlgebra x = maker.made();
            due(want, call.on(x));
            alike(maker.made(), x);
        }
    }

    /**
     * A number is refused just below its bounds, just above them, at the ends of all numbers, and where its lowest 5,
     * 8, 16 or 31 bits alone would lie within the bounds.
     */
    void outside(long want, Maker maker, int low, int high, CallWith call) {
        for (int n : new int[] {low - 1, high + 1, Integer.MIN_VALUE, Integer.MAX_VALUE, low + 32, high - 32,
            low + 256, low + 65536, high + Integer.MIN_VALUE}) {
            if (n < low || n > high) {
                refused(want, maker, x -> call.on(x, n));
            }
        }
    }

    void alike(OrderAlgebra one, OrderAlgebra other) {
        check++;
        String first = portrait(one);
        String second = portrait(other);
        if (!first.equals(second)) {
            complain("something happened:\n  " + first + "\n  " + second);
        }
    }

    /** All that can be seen of an object, then of each state that can be come back to, the shelves and the tape. */
    private String portrait(OrderAlgebra x) {
        StringBuilder seen = new StringBuilder();
        int calls = 0;
        for (int what = 0; what < 15; what++) {
            seen.append(x.count(what)).append(',');
            calls++;
        }
        calls += look(x, seen);
        int more = x.count(8);
        while (more > 0) {
            more = x.undo();
            seen.append(" undone ").append(more).append(": ").append(x.count(0));
            calls += 2 + (calls < MOST_CALLS - 100 ? look(x, seen) : 0);
        }
        for (int shelf = 0; shelf < 2; shelf++) {
            x.form(2, 1, 0);
            seen.append(" kept ").append(x.form(5, shelf, 0)).append(": ");
            calls += 4 + lookAtOrder(x, seen);
        }
        seen.append(" told ").append(x.tell()).append(": ");
        calls += 1 + lookAtOrder(x, seen);
        check++;
        if (calls > MOST_CALLS) {
            complain("a portrait of " + calls + " calls");
        }
        return seen.toString();
    }

    private static int lookAtOrder(OrderAlgebra x, StringBuilder seen) {
        int size = x.count(0);
        for (int e = 0; e < size; e++) {
            seen.append(x.about(e, 1)).append(',');
        }
        return 1 + size;
    }

    private static int look(OrderAlgebra x, StringBuilder seen) {
        int calls = lookAtOrder(x, seen);
        int size = x.count(0);
        for (int a = 0; a < size; a++) {
            int from = x.about(a, 1);
            seen.append(' ').append(x.about(a, 5)).append('/').append(x.summed(a, 0)).append('/');
            calls += 3;
            for (int b = 0; b < size; b++) {
                for (int function = 0; (from >> b & 1) == 1 && function < 4; function++) {
                    seen.append(x.value(function, a, b)).append(',');
                    calls++;
                }
            }
        }
        return calls;
    }

    /** All that a call could spoil: functions, data, a map, both shelves, a tape, and eight acts to be undone. */
    static OrderAlgebra rich() {
        OrderAlgebra x = Texts.of("chain 2");
        x.keep(0);
        Texts.tell(x, "free 3;2<0");
        x.keep(1);
        Texts.tell(x, "free 4;0<1<3;0<2");
        x.make(0, 2);
        x.make(1, 6);
        x.put(2, 0, 3, 7);
        x.put(3, 2, 2, -1);
        x.data(1, 5);
        x.point(0, 1);
        Texts.write(x, "cube 3");
        return x;
    }

    /** One below two others, mapped to a chain of two: 0 to 0, the others to 1. */
    static OrderAlgebra mapped() {
        OrderAlgebra x = Texts.of("chain 2");
        x.keep(0);
        Texts.tell(x, "free 3;0<1;0<2");
        x.make(0, 3);
        x.data(2, 9);
        for (int e = 0; e < 3; e++) {
            x.point(e, e == 0 ? 0 : 1);
        }
        Texts.write(x, "parts 2");
        return x;
    }

    /** As many elements and bytes as there can be. */
    static OrderAlgebra sixteen() {
        OrderAlgebra x = Texts.of("free 16;0<1;14<15");
        x.data(15, -1);
        for (int feeds = 0; feeds < 6; feeds++) {
            x.feed(0x20202020, 0x20202020, 0x20202020, 0x20202020, 0x20202020);
        }
        return x;
    }

    /** A function's value for an interval, told so far 0, becomes any of 64 bits. Functions 2 and 3 are used up. */
    static void enlarge(OrderAlgebra x, int function, int a, int b, long value) {
        x.make(2, 0);
        x.put(2, a, b, (int) (value >> 32));
        for (int shift = 16; shift >= 0; shift -= 16) {
            x.make(3, 0);
            x.put(3, a, b, 65536);
            x.reckon(2, 2, 3, 3);
            x.put(3, a, b, (int) (value >> shift & 65535));
            x.reckon(2, 2, 3, 0);
        }
        x.reckon(function, function, 2, 0);
        x.make(2, 0);
        x.make(3, 0);
    }

    /** Whether all went well, and no sentence is left that no test names. */
    boolean end() {
        if (check == 0) {
            complain("nothing was checked");
        }
        for (int part = 0; part <= Doc.PROMISES; part++) {
            String unsaid = doc.unsaid(part);
            if (!unsaid.isEmpty()) {
                wrong++;
                System.out.println((part == 0 ? "terms" : "promise " + part) + ": no test names '" + unsaid + "'");
            }
        }
        System.out.println(wrong == 0 ? "all boundary cases hold" : wrong + " checks failed");
        return wrong == 0;
    }
}
