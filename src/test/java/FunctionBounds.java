/** Boundary cases of promises 7 to 11, 16, 17 and 26: functions, and what goes beyond 64 bits. */
final class FunctionBounds {
    private static final int NONE = Checks.NONE;
    private static final long NO = Checks.NO;
    private static final long MOST = Long.MAX_VALUE;
    private static final long LEAST = Long.MIN_VALUE;
    /** The greatest number whose square is one of 64 bits. */
    private static final long ROOT = 3037000499L;
    private static final int SUM = 0;
    private static final int DIFFERENCE = 1;
    private static final int TIMES = 2;
    private static final int EACH = 3;

    private final Checks c;

    FunctionBounds(Checks c) {
        this.c = c;
    }

    void all() {
        make();
        kinds();
        put();
        reckon();
        reckonFits();
        reckonOverflows();
        sumsByNumbers();
        overflowAnywhere();
        behindOverflows();
        nothingLeft();
        reckonRefused();
        invert();
        invertRefused();
        invertOverflows();
        raise();
        raiseOverflows();
        value();
        same();
        reduced();
    }

    private void make() {
        c.term("FUNCTIONS 0 to 3: each has a value (64 bits) for each INTERVAL,");
        c.promise(7, "A FUNCTION becomes one of a KIND (0 to 6): that KIND;");
        for (int function = 0; function < 4; function++) {
            OrderAlgebra x = Texts.of("chain 3");
            for (int kind = 6; kind >= 0; kind--) {
                c.due(kind, x.make(function, kind));
                c.due(kind == 6 ? 3 : kind == 4 || kind == 2 ? 1 : 0, x.value(function, 0, 2));
                c.due(0, x.value((function + 1) % 4, 0, 2));
            }
            c.due(8, x.count(8));
        }
        c.promise(7, "NONE, and nothing happens, without these.");
        c.outside(NONE, Checks::rich, 0, 6, (x, n) -> x.make(0, n));
        c.outside(NONE, Checks::rich, 0, 6, (x, n) -> x.make(3, n));
        for (int kind = 0; kind < 7; kind++) {
            int which = kind;
            c.outside(NONE, Checks::rich, 0, 3, (x, n) -> x.make(n, which));
        }
    }

    /** Values of the intervals of one element, of two, and of all of a chain of sixteen and of a cube. */
    private void kinds() {
        c.term("KINDS: 0 nothing (0), 1 DELTA (1 for [a, a], else 0), 2 ZETA (1), 3 MOEBIUS, 4 STRICT (1 for a BELOW"
                + " b, else 0), 5 COVER (1 if b COVERS a, else 0), 6 SIZE (ELEMENTS of it).");
        int[][] due = {{0, 0, 0, 0}, {1, 0, 0, 0}, {1, 1, 1, 1}, {1, -1, 0, 1}, {0, 1, 1, 1}, {0, 1, 0, 0},
            {1, 2, 16, 16}};
        OrderAlgebra chain = Texts.of("chain 16");
        OrderAlgebra cube = Texts.of("cube 4");
        for (int kind = 0; kind < 7; kind++) {
            chain.make(3, kind);
            cube.make(0, kind);
            c.due(due[kind][0], chain.value(3, 0, 0));
            c.due(due[kind][0], chain.value(3, 15, 15));
            c.due(due[kind][1], chain.value(3, 14, 15));
            c.due(due[kind][1], cube.value(0, 0, 8));
            c.due(due[kind][2], chain.value(3, 0, 15));
            c.due(due[kind][3], cube.value(0, 0, 15));
        }
        OrderAlgebra one = new OrderAlgebra();
        for (int kind = 0; kind < 7; kind++) {
            one.make(2, kind);
            c.due(due[kind][0], one.value(2, 0, 0));
        }
    }

    private void put() {
        c.promise(8, "The value of [a, b] is told: 1;");
        OrderAlgebra x = Texts.of("chain 16");
        int[] told = {1, -1, Integer.MAX_VALUE, Integer.MIN_VALUE, 0};
        for (int function = 0; function < 4; function++) {
            for (int value : told) {
                c.due(1, x.put(function, 0, 15, value));
                c.due(1, x.put(function, 15, 15, value));
                c.due(value, x.value(function, 0, 15));
                c.due(value, x.value(function, 15, 15));
            }
        }
        c.promise(8, "-2, and nothing happens: it is so;");
        c.refused(-2, Checks::rich, y -> y.put(0, 0, 0, 1), y -> y.put(2, 0, 3, 7), y -> y.put(2, 0, 0, 0),
                y -> y.put(3, 2, 2, -1), y -> y.put(1, 0, 3, 3));
        c.refused(-2, OrderAlgebra::new, y -> y.put(0, 0, 0, 0), y -> y.put(3, 0, 0, 0));
        x = new OrderAlgebra();
        Checks.enlarge(x, 0, 0, 0, 1L << 32);
        c.due(1, x.put(0, 0, 0, 0));
        Checks.enlarge(x, 0, 0, 0, (1L << 32) - 1);
        c.due(1, x.put(0, 0, 0, -1));
        c.due(-2, x.put(0, 0, 0, -1));
        c.promise(8, "NONE, and nothing happens, without that FUNCTION, INTERVAL.");
        c.outside(NONE, Checks::rich, 0, 3, (y, n) -> y.put(n, 0, 3, 8));
        c.outside(NONE, Checks::rich, 0, 3, (y, n) -> y.put(2, n, 3, 8));
        c.outside(NONE, Checks::rich, 0, 3, (y, n) -> y.put(2, 0, n, 8));
        c.outside(NONE, Checks::rich, 0, 3, (y, n) -> y.put(2, n, n, 8));
        c.refused(NONE, Checks::rich, y -> y.put(2, 3, 0, 8), y -> y.put(2, 1, 2, 8), y -> y.put(2, 2, 3, 8),
                y -> y.put(2, 3, 0, 0));
        c.outside(NONE, Checks::sixteen, 0, 15, (y, n) -> y.put(0, n, n, 8));
        c.outside(NONE, OrderAlgebra::new, 0, 0, (y, n) -> y.put(0, n, n, 8));
    }

    private void reckon() {
        c.promise(9, "A FUNCTION becomes of two, how 0: the sum, 1: the difference (value by value), 2: x times y,"
                + " 3: values times values: 1;");
        long[][] due = {{4, 5, 3}, {2, 1, 1}, {3, 3 * 2 + 3, 2}, {3, 6, 2}};
        for (int how = 0; how < 4; how++) {
            for (int function = 0; function < 4; function++) {
                OrderAlgebra x = Texts.of("chain 2");
                x.put(0, 0, 0, 3);
                x.put(0, 0, 1, 3);
                x.put(0, 1, 1, 2);
                x.put(3, 0, 0, 1);
                x.put(3, 0, 1, 2);
                x.put(3, 1, 1, 1);
                c.due(1, x.reckon(function, 0, 3, how));
                c.due(due[how][0], x.value(function, 0, 0));
                c.due(due[how][1], x.value(function, 0, 1));
                c.due(due[how][2], x.value(function, 1, 1));
                c.due(8, x.count(8));
            }
        }
        c.term("f times g has for [a, b] the sum of f [a, x] times g [x, b], x of [a, b].");
        OrderAlgebra x = Texts.of("chain 16");
        x.make(0, 2);
        c.due(1, x.reckon(0, 0, 0, TIMES));
        c.due(16, x.value(0, 0, 15));
        c.due(1, x.value(0, 15, 15));
        c.due(1, x.value(0, 0, 0));
        x.make(1, 6);
        c.due(1, x.same(0, 1));
        c.due(1, x.reckon(0, 0, 1, DIFFERENCE));
        c.due(1, x.same(0, 2));
    }

    /** One element, whose functions 0 and 1 have two values. */
    private static OrderAlgebra single(long one, long two) {
        OrderAlgebra x = new OrderAlgebra();
        Checks.enlarge(x, 0, 0, 0, one);
        Checks.enlarge(x, 1, 0, 0, two);
        return x;
    }

    private void fits(int how, long one, long two, long want) {
        OrderAlgebra x = single(one, two);
        c.due(one, x.value(0, 0, 0));
        c.due(two, x.value(1, 0, 0));
        c.due(1, x.reckon(3, 0, 1, how));
        c.due(want, x.value(3, 0, 0));
    }

    private void goesBeyond(int how, long one, long two) {
        for (int function = 0; function < 4; function++) {
            int which = function;
            c.refused(-3, () -> single(one, two), x -> x.reckon(which, 0, 1, how));
        }
    }

    private void reckonFits() {
        c.term("what goes beyond 64 bits anywhere OVERFLOWS.");
        fits(SUM, MOST, 0, MOST);
        fits(SUM, MOST - 1, 1, MOST);
        fits(SUM, MOST, -1, MOST - 1);
        fits(SUM, LEAST, 0, LEAST);
        fits(SUM, LEAST + 1, -1, LEAST);
        fits(SUM, MOST, LEAST, -1);
        fits(SUM, 1L << 62, (1L << 62) - 1, MOST);
        fits(SUM, -(1L << 62), -(1L << 62), LEAST);
        fits(DIFFERENCE, MOST, 0, MOST);
        fits(DIFFERENCE, MOST - 1, -1, MOST);
        fits(DIFFERENCE, LEAST, 0, LEAST);
        fits(DIFFERENCE, LEAST + 1, 1, LEAST);
        fits(DIFFERENCE, -1, LEAST, MOST);
        fits(DIFFERENCE, -1, MOST, LEAST);
        fits(DIFFERENCE, LEAST, LEAST, 0);
        fits(DIFFERENCE, 0, MOST, -MOST);
        for (int how = TIMES; how <= EACH; how++) {
            fits(how, MOST, 1, MOST);
            fits(how, MOST, -1, -MOST);
            fits(how, -1, MOST, -MOST);
            fits(how, LEAST, 1, LEAST);
            fits(how, 1, LEAST, LEAST);
            fits(how, LEAST, 0, 0);
            fits(how, 0, LEAST, 0);
            fits(how, 1L << 31, 1L << 31, 1L << 62);
            fits(how, -(1L << 32), 1L << 31, LEAST);
            fits(how, 1L << 31, -(1L << 32), LEAST);
            fits(how, ROOT, ROOT, ROOT * ROOT);
            fits(how, -ROOT, ROOT, -ROOT * ROOT);
            fits(how, -ROOT, -ROOT, ROOT * ROOT);
            fits(how, MOST / 7, 7, MOST);
            fits(how, 1L << 62, -2, LEAST);
        }
    }

    private void reckonOverflows() {
        c.promise(9, "-3, and nothing happens: it OVERFLOWS;");
        goesBeyond(SUM, MOST, 1);
        goesBeyond(SUM, 1, MOST);
        goesBeyond(SUM, LEAST, -1);
        goesBeyond(SUM, -1, LEAST);
        goesBeyond(SUM, 1L << 62, 1L << 62);
        goesBeyond(SUM, LEAST, LEAST);
        goesBeyond(SUM, MOST, MOST);
        goesBeyond(DIFFERENCE, LEAST, 1);
        goesBeyond(DIFFERENCE, MOST, -1);
        goesBeyond(DIFFERENCE, 0, LEAST);
        goesBeyond(DIFFERENCE, MOST, LEAST);
        goesBeyond(DIFFERENCE, -2, MOST);
        goesBeyond(DIFFERENCE, LEAST, MOST);
        for (int how = TIMES; how <= EACH; how++) {
            goesBeyond(how, LEAST, -1);
            goesBeyond(how, -1, LEAST);
            goesBeyond(how, 1L << 32, 1L << 31);
            goesBeyond(how, -(1L << 32), -(1L << 31));
            goesBeyond(how, 1L << 32, 1L << 32);
            goesBeyond(how, ROOT + 1, ROOT + 1);
            goesBeyond(how, -ROOT - 1, ROOT + 1);
            goesBeyond(how, 1L << 62, 2);
            goesBeyond(how, MOST / 7 + 1, 7);
            goesBeyond(how, LEAST, 2);
            goesBeyond(how, LEAST, LEAST);
            goesBeyond(how, MOST, MOST);
            goesBeyond(how, MOST, LEAST);
        }
    }

    /** 2 is below 1, 1 below 0: function 0 has a value for each interval that begins with 2, function 1 is zeta. */
    private static OrderAlgebra falling(long[] byNumber) {
        OrderAlgebra x = Texts.of("free 3;2<1<0");
        for (int e = 0; e < 3; e++) {
            Checks.enlarge(x, 0, 2, e, byNumber[e]);
        }
        x.make(1, 2);
        return x;
    }

    /** The whole sum fits each time; on the way, by numbers, it does not always, though it would from the last on. */
    private void sumsByNumbers() {
        c.term("Sums go from 0 on, x by numbers, each time the product is reckoned, then added;");
        long[][] fit = {{MOST, -1, 1}, {-1, MOST, 0}, {LEAST, 1, -1}, {MOST, LEAST, MOST}, {-2, 1, MOST - 1}};
        long[] due = {MOST, MOST - 1, LEAST, MOST - 1, MOST - 2};
        for (int i = 0; i < fit.length; i++) {
            OrderAlgebra x = falling(fit[i]);
            c.due(1, x.reckon(2, 0, 1, TIMES));
            c.due(due[i], x.value(2, 2, 0));
        }
        long half = 1L << 62;
        long[][] over = {{MOST, 1, -1}, {1, MOST, -1}, {LEAST, -1, 1}, {half, half, LEAST}, {MOST, MOST, LEAST}};
        for (long[] row : over) {
            c.refused(-3, () -> falling(row), x -> x.reckon(2, 0, 1, TIMES));
        }
    }

    /** In one interval alone, be it the first, the last or one between, while all others fit. */
    private void overflowAnywhere() {
        c.term("what goes beyond 64 bits anywhere OVERFLOWS.");
        int[] more = {1, -1, 2, 2};
        for (int[] at : new int[][] {{0, 0}, {0, 1}, {0, 2}, {1, 1}, {1, 2}, {2, 2}}) {
            for (int how = 0; how < 4; how++) {
                int which = how;
                Checks.Maker maker = () -> {
                    OrderAlgebra x = Texts.of("chain 3");
                    Checks.enlarge(x, 0, at[0], at[1], which < TIMES ? MOST : 1L << 62);
                    x.put(1, which == TIMES ? at[1] : at[0], at[1], more[which]);
                    return x;
                };
                c.refused(-3, maker, x -> x.reckon(2, 0, 1, which));
            }
        }
    }

    /** What went beyond 64 bits once is forgotten with the next call. */
    private void behindOverflows() {
        Checks.Call[] beyond = {x -> x.reckon(2, 0, 0, SUM), x -> x.reckon(2, 0, 0, TIMES), x -> x.raise(2, 0, 2)};
        Checks.Call[] within = {x -> x.reckon(2, 1, 1, SUM), x -> x.reckon(2, 1, 1, DIFFERENCE),
            x -> x.reckon(2, 1, 1, TIMES), x -> x.reckon(2, 1, 1, EACH), x -> x.invert(2, 1), x -> x.raise(2, 1, 20),
            x -> x.raise(2, 0, 0)};
        for (Checks.Call first : beyond) {
            for (Checks.Call second : within) {
                OrderAlgebra x = single(MOST, -1);
                c.due(-3, first.on(x));
                c.due(1, second.on(x));
                c.due(-3, first.on(x));
                x.data(0, 4);
                c.due(4, x.summed(0, 0));
                c.due(4, x.gotBack(0, 1));
            }
        }
    }

    /** Functions of an order that is gone leave nothing behind for intervals that this one does not have. */
    private void nothingLeft() {
        c.term("at first and with each other ORDER 0.");
        Checks.Call[] deltas = {x -> x.make(1, 1), x -> x.reckon(1, 0, 0, TIMES), x -> x.reckon(1, 0, 0, EACH),
            x -> x.invert(1, 0), x -> x.raise(1, 0, 3)};
        for (Checks.Call delta : deltas) {
            OrderAlgebra x = Texts.of("chain 4");
            x.make(3, 2);
            Texts.tell(x, "free 3");
            c.due(1, x.same(3, 2));
            for (int e = 0; e < 3; e++) {
                x.put(0, e, e, 1);
            }
            c.due(1, delta.on(x));
            c.due(1, x.same(0, 1));
        }
    }

    private void reckonRefused() {
        c.promise(9, "NONE, and nothing happens, without these.");
        for (int how = 0; how < 4; how++) {
            int which = how;
            c.outside(NONE, Checks::rich, 0, 3, (x, n) -> x.reckon(n, 0, 1, which));
            c.outside(NONE, Checks::rich, 0, 3, (x, n) -> x.reckon(0, n, 1, which));
            c.outside(NONE, Checks::rich, 0, 3, (x, n) -> x.reckon(0, 1, n, which));
        }
        c.outside(NONE, Checks::rich, 0, 3, (x, n) -> x.reckon(0, 1, 2, n));
        c.outside(NONE, () -> single(MOST, MOST), 0, 3, (x, n) -> x.reckon(n, 0, 1, SUM));
    }

    private void invert() {
        c.promise(10, "A FUNCTION becomes the INVERSE of another one: 1;");
        for (int function = 0; function < 4; function++) {
            OrderAlgebra x = Texts.of("cube 2");
            x.make(3, 2);
            c.due(1, x.invert(function, 3));
            c.due(1, x.value(function, 0, 3));
            c.due(-1, x.value(function, 2, 3));
            c.due(1, x.value(function, 3, 3));
        }
        OrderAlgebra x = Texts.of("chain 16");
        x.make(0, 2);
        c.due(1, x.invert(1, 0));
        x.make(2, 3);
        c.due(1, x.same(1, 2));
        c.term("INVERSE of f (that has 1 or -1 for each [a, a]): g with f [a, a] for [a, a]; for other [a, b] it is -"
                + " f [a, a] times the sum of f [a, x] times g [x, b], x of [a, b] but a.");
        for (int signs = 0; signs < 4; signs++) {
            int low = (signs & 1) == 0 ? 1 : -1;
            int high = (signs & 2) == 0 ? 1 : -1;
            x = Texts.of("chain 2");
            x.put(0, 0, 0, low);
            x.put(0, 1, 1, high);
            x.put(0, 0, 1, 5);
            c.due(1, x.invert(1, 0));
            c.due(low, x.value(1, 0, 0));
            c.due(high, x.value(1, 1, 1));
            c.due(-5 * low * high, x.value(1, 0, 1));
        }
        x = new OrderAlgebra();
        x.put(0, 0, 0, -1);
        c.due(1, x.invert(0, 0));
        c.due(-1, x.value(0, 0, 0));
    }

    private void invertRefused() {
        c.promise(10, "-2, and nothing happens: that has not 1 or -1 for each [a, a];");
        for (long own : new long[] {0, 2, -2, (1L << 32) + 1, (1L << 32) - 1, 1L << 32, MOST, LEAST, -MOST}) {
            for (int e = 0; e < 3; e++) {
                int at = e;
                Checks.Maker maker = () -> {
                    OrderAlgebra x = Texts.of("free 3;0<1");
                    x.make(0, 2);
                    x.put(0, at, at, 0);
                    Checks.enlarge(x, 0, at, at, own);
                    return x;
                };
                c.refused(-2, maker, x -> x.invert(1, 0), x -> x.invert(0, 0));
            }
        }
        c.refused(-2, Checks::rich, x -> x.invert(0, 2), x -> x.invert(3, 3));
        c.refused(-2, OrderAlgebra::new, x -> x.invert(0, 0));
        c.promise(10, "NONE, and nothing happens, without these.");
        c.outside(NONE, Checks::rich, 0, 3, (x, n) -> x.invert(n, 0));
        c.outside(NONE, Checks::rich, 0, 3, (x, n) -> x.invert(0, n));
        c.outside(NONE, Checks::rich, 0, 3, (x, n) -> x.invert(n, 2));
    }

    private void invertOverflows() {
        c.promise(10, "-3: it OVERFLOWS;");
        OrderAlgebra x = bent(MOST, 0);
        c.due(1, x.invert(1, 0));
        c.due(MOST, x.value(1, 0, 2));
        c.due(-MOST, x.value(1, 0, 1));
        x = bent(MOST, MOST);
        c.due(1, x.invert(1, 0));
        c.due(0, x.value(1, 0, 2));
        c.refused(-3, () -> bent(MOST, -1), y -> y.invert(1, 0), y -> y.invert(0, 0), y -> y.invert(3, 0));
        c.refused(-3, () -> bent(MOST, -2), y -> y.invert(1, 0));
        c.refused(-3, () -> bent(LEAST, 0), y -> y.invert(1, 0), y -> y.invert(0, 0));
        c.refused(-3, () -> bent(0, LEAST), y -> y.invert(1, 0));
        c.refused(-3, () -> steep(1 << 21), y -> y.invert(1, 0), y -> y.invert(0, 0));
        x = steep(1 << 20);
        c.due(1, x.invert(1, 0));
        c.due(-(1L << 60), x.value(1, 0, 3));
        x = fan(MOST, -1, 1);
        c.due(1, x.invert(1, 0));
        c.due(-MOST, x.value(1, 3, 0));
        c.refused(-3, () -> fan(MOST, 1, -1), y -> y.invert(1, 0));
        c.refused(-3, () -> fan(1, MOST, -1), y -> y.invert(1, 0));
        c.refused(-3, () -> fan(-2, -MOST, 2), y -> y.invert(1, 0));
    }

    /** The inverse has -one for [0, 1], and one - two for [0, 2]: less the sum of -one and two. */
    private static OrderAlgebra bent(long one, long two) {
        OrderAlgebra x = Texts.of("chain 3");
        x.make(0, 2);
        x.put(0, 0, 1, 0);
        x.put(0, 0, 2, 0);
        Checks.enlarge(x, 0, 0, 1, one);
        Checks.enlarge(x, 0, 0, 2, two);
        return x;
    }

    /** The inverse has 1 for [1, 0] and [2, 0], so for [3, 0] it has less the sum of three values, by their numbers. */
    private static OrderAlgebra fan(long... byNumber) {
        OrderAlgebra x = Texts.of("free 4;3<2<1<0");
        x.make(0, 1);
        x.put(0, 1, 0, -1);
        x.put(0, 2, 0, -1);
        for (int e = 0; e < 3; e++) {
            Checks.enlarge(x, 0, 3, e, byNumber[e]);
        }
        return x;
    }

    /** A chain of four with one value for each [a, a + 1], and none for longer ones. */
    private static OrderAlgebra steep(int value) {
        OrderAlgebra x = Texts.of("chain 4");
        x.make(0, 1);
        for (int a = 0; a < 3; a++) {
            x.put(0, a, a + 1, value);
        }
        return x;
    }

    private void raise() {
        c.promise(11, "A FUNCTION becomes the POWER n (0 to 20) of another one: 1;");
        for (int function = 0; function < 4; function++) {
            OrderAlgebra x = Texts.of("chain 2");
            x.make(3, 2);
            c.due(1, x.raise(function, 3, 20));
            c.due(20, x.value(function, 0, 1));
            c.due(1, x.value(function, 1, 1));
            x.make(3, 2);
            c.due(1, x.raise(function, 3, 0));
            c.due(0, x.value(function, 0, 1));
            c.due(1, x.value(function, 0, 0));
            c.due(1, x.value(function, 1, 1));
        }
        c.term("POWER n of f: DELTA, n times: times f.");
        OrderAlgebra x = Texts.of("chain 16");
        x.make(0, 4);
        c.due(1, x.raise(1, 0, 15));
        c.due(1, x.value(1, 0, 15));
        c.due(1, x.raise(1, 0, 16));
        c.due(0, x.value(1, 0, 15));
        c.due(1, x.same(1, 2));
        c.due(1, x.raise(1, 0, 1));
        c.due(1, x.same(1, 0));
        c.due(1, x.raise(1, 2, 0));
        x.make(3, 1);
        c.due(1, x.same(1, 3));
        x = Texts.of("free 2;1<0");
        x.make(0, 2);
        c.due(1, x.raise(0, 0, 20));
        c.due(20, x.value(0, 1, 0));
        c.promise(11, "NONE, and nothing happens, without these.");
        c.outside(NONE, Checks::rich, 0, 20, (y, n) -> y.raise(2, 0, n));
        c.outside(NONE, Checks::rich, 0, 3, (y, n) -> y.raise(n, 0, 2));
        c.outside(NONE, Checks::rich, 0, 3, (y, n) -> y.raise(0, n, 2));
        c.outside(NONE, Checks::rich, 0, 3, (y, n) -> y.raise(0, n, 0));
    }

    private void raiseOverflows() {
        c.promise(11, "-3, and nothing happens: it OVERFLOWS;");
        powerFits(8, 20, 1L << 60);
        powerFits(-8, 20, 1L << 60);
        powerFits(9, 19, 1350851717672992089L);
        powerFits(ROOT, 2, ROOT * ROOT);
        powerFits(-(1L << 21), 3, LEAST);
        powerFits(LEAST, 1, LEAST);
        powerFits(LEAST, 0, 1);
        powerFits(MOST, 1, MOST);
        powerFits(-1, 20, 1);
        powerFits(-1, 19, -1);
        long[] bases = {9, -9, ROOT + 1, -ROOT - 1, 1L << 21, LEAST, MOST, 1L << 32};
        int[] powers = {20, 20, 2, 2, 3, 2, 2, 2};
        for (int i = 0; i < bases.length; i++) {
            long base = bases[i];
            int n = powers[i];
            c.refused(-3, () -> single(base, 5), x -> x.raise(1, 0, n), x -> x.raise(0, 0, n), x -> x.raise(3, 0, 20));
        }
        // the second power goes beyond, though the third one would be nothing
        Checks.Maker maker = () -> {
            OrderAlgebra x = Texts.of("chain 3");
            Checks.enlarge(x, 0, 0, 1, 1L << 32);
            Checks.enlarge(x, 0, 1, 2, 1L << 31);
            return x;
        };
        c.refused(-3, maker, x -> x.raise(1, 0, 2), x -> x.raise(1, 0, 3), x -> x.raise(1, 0, 20));
        OrderAlgebra x = maker.made();
        c.due(1, x.raise(1, 0, 1));
        c.due(1L << 32, x.value(1, 0, 1));
    }

    private void powerFits(long base, int n, long want) {
        OrderAlgebra x = single(base, 0);
        c.due(1, x.raise(1, 0, n));
        c.due(want, x.value(1, 0, 0));
    }

    private void value() {
        c.promise(16, "The value of [a, b];");
        OrderAlgebra x = Texts.of("chain 16");
        x.put(0, 0, 0, 1);
        x.put(0, 0, 15, 2);
        x.put(3, 15, 15, 3);
        x.put(3, 0, 15, 4);
        c.due(1, x.value(0, 0, 0));
        c.due(2, x.value(0, 0, 15));
        c.due(3, x.value(3, 15, 15));
        c.due(4, x.value(3, 0, 15));
        c.due(0, x.value(0, 15, 15));
        c.due(MOST, single(MOST, 0).value(0, 0, 0));
        c.due(LEAST + 1, single(0, LEAST + 1).value(1, 0, 0));
        c.promise(16, "Long.MIN_VALUE without these.");
        c.outside(NO, Checks::rich, 0, 3, (y, n) -> y.value(n, 0, 0));
        c.outside(NO, Checks::rich, 0, 3, (y, n) -> y.value(0, n, 3));
        c.outside(NO, Checks::rich, 0, 3, (y, n) -> y.value(0, 0, n));
        c.outside(NO, Checks::rich, 0, 3, (y, n) -> y.value(3, n, n));
        c.outside(NO, Checks::sixteen, 0, 15, (y, n) -> y.value(3, n, n));
        c.refused(NO, Checks::rich, y -> y.value(0, 3, 0), y -> y.value(0, 1, 2), y -> y.value(0, 2, 3));
    }

    private void same() {
        c.promise(17, "Whether two FUNCTIONS have the same values (1, 0);");
        OrderAlgebra x = Texts.of("chain 16");
        c.due(1, x.same(0, 3));
        c.due(1, x.same(3, 3));
        x.put(3, 15, 15, 1);
        c.due(0, x.same(0, 3));
        c.due(0, x.same(3, 0));
        c.due(1, x.same(3, 3));
        x.put(0, 15, 15, 1);
        c.due(1, x.same(0, 3));
        x.put(0, 0, 0, -1);
        c.due(0, x.same(0, 3));
        c.due(0, single(1L << 32, 0).same(0, 1));
        c.due(0, single(LEAST, 0).same(0, 1));
        c.due(0, single(MOST, LEAST).same(0, 1));
        c.due(1, single(LEAST, LEAST).same(0, 1));
        c.promise(17, "NONE without these.");
        c.outside(NONE, Checks::rich, 0, 3, (y, n) -> y.same(n, 0));
        c.outside(NONE, Checks::rich, 0, 3, (y, n) -> y.same(0, n));
        c.outside(NONE, Checks::rich, 0, 3, (y, n) -> y.same(n, n));
    }

    private void reduced() {
        c.promise(26, "The value of a REDUCED FUNCTION for INTERVALS of TYPE t;");
        OrderAlgebra x = Texts.of("chain 16");
        x.make(3, 6);
        c.due(1, x.reduced(3, 0));
        c.due(16, x.reduced(3, 15));
        c.due(0, x.reduced(0, 15));
        c.due(MOST, single(MOST, 0).reduced(0, 0));
        c.due(LEAST + 1, single(LEAST + 1, 0).reduced(0, 0));
        c.term("REDUCED: a FUNCTION that has the same value for ALIKE INTERVALS.");
        x.put(3, 0, 15, -4);
        c.due(-4, x.reduced(3, 15));
        x.put(3, 15, 15, 2);
        c.due(NO, x.reduced(3, 15));
        c.due(NO, x.reduced(3, 0));
        x = Texts.of("free 2");
        Checks.enlarge(x, 0, 1, 1, 1L << 32);
        c.due(NO, x.reduced(0, 0));
        // the interval that differs from one alike, by all numbers
        String[] texts = {"free 3;0<1;0<2", "free 3;1<0;2<0", "free 3;2<0;2<1", "free 3;0<2;1<2"};
        int[][] differ = {{0, 2}, {2, 0}, {2, 1}, {1, 2}};
        for (int i = 0; i < texts.length; i++) {
            x = Texts.of(texts[i]);
            c.due(0, x.reduced(0, 1));
            x.put(0, differ[i][0], differ[i][1], 1);
            c.due(NO, x.reduced(0, 1));
            c.due(14, x.count(13));
        }
        c.promise(26, "Long.MIN_VALUE, if it is not REDUCED, or without these.");
        c.refused(NO, Checks::rich, y -> y.reduced(3, 0), y -> y.reduced(3, 1));
        c.outside(NO, Checks::rich, 0, 2, (y, n) -> y.reduced(0, n));
        c.outside(NO, Checks::rich, 0, 3, (y, n) -> y.reduced(n, 0));
        c.outside(NO, OrderAlgebra::new, 0, 0, (y, n) -> y.reduced(0, n));
        c.outside(NO, () -> Texts.of("free 16"), 0, 0, (y, n) -> y.reduced(0, n));
    }
}
