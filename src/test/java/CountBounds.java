/** Boundary cases of promises 20 to 25 and 32: chains, Moebius values, sets, types, coefficients. */
final class CountBounds {
    private static final int NONE = Checks.NONE;
    private static final long NO = Checks.NO;
    private static final int COVERING = -2;

    private final Checks c;

    CountBounds(Checks c) {
        this.c = c;
    }

    void all() {
        chains();
        chainsOfAll();
        chainsRefused();
        moebius();
        crossCuts();
        moebiusRefused();
        multichains();
        downSets();
        extensions();
        fences();
        setsRefused();
        types();
        typesOfRings();
        manyTypes();
        typesOfOthers();
        typesRefused();
        splits();
        coefficients();
        coefficientsRefused();
    }

    private static long choose(int of, int some) {
        long result = 1;
        for (int i = 1; i <= some; i++) {
            result = result * (of - some + i) / i;
        }
        return some < 0 || some > of ? 0 : result;
    }

    private void chains() {
        c.promise(20, "CHAINS of k (0 to 15) from a to b;");
        c.term("CHAIN of k from a to b: a row of k and 1 ELEMENTS, a the first, b the last, each BELOW the next.");
        OrderAlgebra x = Texts.of("chain 16");
        for (int k = 0; k <= 15; k++) {
            c.due(choose(14, k - 1), x.chains(0, 15, k));
            c.due(k == 0 ? 1 : 0, x.chains(0, 0, k));
            c.due(k == 0 ? 1 : 0, x.chains(15, 15, k));
            c.due(k == 1 ? 1 : 0, x.chains(14, 15, k));
            c.due(choose(13, k - 1), x.chains(1, 15, k));
        }
        OrderAlgebra one = new OrderAlgebra();
        c.due(1, one.chains(0, 0, 0));
        c.due(0, one.chains(0, 0, 1));
        c.due(0, one.chains(0, 0, 15));
        c.due(14, Texts.of(Texts.FAN).chains(0, 15, 2));
        c.due(0, Texts.of(Texts.FAN).chains(0, 15, 3));
    }

    private void chainsOfAll() {
        c.promise(20, "k NONE: those of all k, k -2: those in which each next one COVERS the one ahead.");
        OrderAlgebra x = Texts.of("chain 16");
        c.due(1 << 14, x.chains(0, 15, NONE));
        c.due(1, x.chains(0, 15, COVERING));
        c.due(1, x.chains(0, 1, NONE));
        c.due(1, x.chains(15, 15, NONE));
        c.due(1, x.chains(15, 15, COVERING));
        c.due(1, new OrderAlgebra().chains(0, 0, NONE));
        c.due(1, new OrderAlgebra().chains(0, 0, COVERING));
        c.due(15, Texts.of(Texts.FAN).chains(0, 15, NONE));
        c.due(14, Texts.of(Texts.FAN).chains(0, 15, COVERING));
        c.due(24, Texts.of("cube 4").chains(0, 15, COVERING));
        c.due(75, Texts.of("cube 4").chains(0, 15, NONE));
    }

    private void chainsRefused() {
        c.promise(20, "NONE without these.");
        c.outside(NONE, Checks::rich, -2, 15, (x, k) -> x.chains(0, 3, k));
        c.outside(NONE, Checks::rich, -2, 15, (x, k) -> x.chains(3, 3, k));
        for (int k = -2; k <= 1; k++) {
            int which = k;
            c.outside(NONE, Checks::rich, 0, 3, (x, n) -> x.chains(n, 3, which));
            c.outside(NONE, Checks::rich, 0, 3, (x, n) -> x.chains(0, n, which));
            c.outside(NONE, Checks::rich, 0, 3, (x, n) -> x.chains(n, n, which));
            c.outside(NONE, Checks::sixteen, 0, 15, (x, n) -> x.chains(n, n, which));
        }
    }

    private void allWays(String text, int a, int b, long want) {
        for (int way = 0; way < 4; way++) {
            c.due(want, Texts.of(text).moebius(a, b, way));
        }
    }

    private void moebius() {
        c.promise(21, "MOEBIUS [a, b] way 0: from below, as told, 1: from above (the sum of MOEBIUS [x, b], x but a,"
                + " with - before it), 2: CHAINS of even k less those of odd k, 3: by CROSS-CUT.");
        c.term("MOEBIUS [a, b]: 1 if a is b, else the sum of MOEBIUS [a, x], x of [a, b] but b, with - before it.");
        allWays("free 1", 0, 0, 1);
        allWays("free 16", 15, 15, 1);
        allWays("chain 16", 0, 0, 1);
        allWays("chain 16", 15, 15, 1);
        allWays("chain 16", 0, 1, -1);
        allWays("chain 16", 14, 15, -1);
        allWays("chain 16", 13, 15, 0);
        allWays("chain 16", 0, 15, 0);
        allWays("cube 4", 0, 15, 1);
        allWays("cube 4", 8, 15, -1);
        allWays("parts 4", 14, 0, -6);
        allWays(Texts.FAN, 0, 15, 13);
        allWays(Texts.FAN, 0, 14, -1);
    }

    private void crossCuts() {
        c.term("By CROSS-CUT: of sets of ATOMS (those of [a, b] that COVER a) whose JOIN is b (JOIN within [a, b];"
                + " of none: a) those of an even number less those of an odd one; [a, b] must have a JOIN of any two"
                + " within it.");
        // 1 and 2 have no join in the whole order, but within [0, 3] they have one
        OrderAlgebra x = Texts.of("free 5;0<1<3;0<2<3;1<4;2<4");
        c.due(-2, x.bound(1, 2, 0));
        c.due(1, x.moebius(0, 3, 3));
        c.due(1, x.moebius(0, 4, 3));
        // one atom alone, so no two atoms lack a join; two others do
        x = Texts.of("free 7;0<6<1<3<5;6<2<4<5;1<4;2<3");
        c.due(0, x.moebius(0, 5, 0));
        c.due(NO, x.moebius(0, 5, 3));
        c.due(0, x.moebius(0, 3, 3));
        // the two that have no join, and the atoms, by other numbers
        x = Texts.of("free 6;5<0<2<4;5<1<3<4;0<3;1<2");
        c.due(-1, x.moebius(5, 4, 0));
        c.due(NO, x.moebius(5, 4, 3));
        c.due(1, x.moebius(5, 3, 3));
        c.due(1, x.moebius(5, 2, 3));
        c.due(-1, x.moebius(5, 0, 3));
        // an element that covers another one, but is no atom of the interval
        x = Texts.of("free 5;0<1<3;0<2<3;0<4");
        c.due(1, x.moebius(0, 3, 3));
        c.due(-1, x.moebius(0, 4, 3));
    }

    private void moebiusRefused() {
        c.promise(21, "Long.MIN_VALUE without these, that INTERVAL, or (3) if two within it have no JOIN within it.");
        String crossed = "free 6;0<1<3<5;0<2<4<5;1<4;2<3";
        for (int way = 0; way < 3; way++) {
            c.due(-1, Texts.of(crossed).moebius(0, 5, way));
        }
        c.refused(NO, () -> Texts.of(crossed), x -> x.moebius(0, 5, 3));
        c.due(1, Texts.of(crossed).moebius(0, 3, 3));
        c.outside(NO, Checks::rich, 0, 3, (x, way) -> x.moebius(0, 3, way));
        c.outside(NO, Checks::rich, 0, 3, (x, way) -> x.moebius(3, 3, way));
        for (int way = 0; way < 4; way++) {
            int which = way;
            c.outside(NO, Checks::rich, 0, 3, (x, n) -> x.moebius(n, 3, which));
            c.outside(NO, Checks::rich, 0, 3, (x, n) -> x.moebius(0, n, which));
            c.outside(NO, Checks::rich, 0, 3, (x, n) -> x.moebius(n, n, which));
            c.outside(NO, Checks::sixteen, 0, 15, (x, n) -> x.moebius(n, n, which));
            c.refused(NO, Checks::rich, x -> x.moebius(3, 0, which), x -> x.moebius(1, 2, which));
        }
    }

    private void multichains() {
        c.promise(22, "POWER n (0 to 30) of ZETA for [a, b];");
        OrderAlgebra x = Texts.of("chain 16");
        for (int n = 0; n <= 30; n++) {
            c.due(n == 0 ? 0 : choose(n + 14, 15), x.multichains(0, 15, n));
            c.due(1, x.multichains(15, 15, n));
            c.due(n, x.multichains(0, 1, n));
        }
        c.due(229911617056L, x.multichains(0, 15, 30));
        c.due(30 * 30 * 30 * 30, Texts.of("cube 4").multichains(0, 15, 30));
        c.due(1, new OrderAlgebra().multichains(0, 0, 0));
        c.due(1, new OrderAlgebra().multichains(0, 0, 30));
        c.promise(22, "NONE without these.");
        c.outside(NONE, Checks::rich, 0, 30, (y, n) -> y.multichains(0, 3, n));
        c.outside(NONE, Checks::rich, 0, 30, (y, n) -> y.multichains(3, 3, n));
        c.outside(NONE, Checks::rich, 0, 3, (y, n) -> y.multichains(n, 3, 2));
        c.outside(NONE, Checks::rich, 0, 3, (y, n) -> y.multichains(0, n, 2));
        c.outside(NONE, Checks::rich, 0, 3, (y, n) -> y.multichains(n, n, 0));
        c.outside(NONE, Checks::sixteen, 0, 15, (y, n) -> y.multichains(n, n, 1));
        c.refused(NONE, Checks::rich, y -> y.multichains(3, 0, 2), y -> y.multichains(1, 2, 0));
    }

    private void downSets() {
        c.promise(23, "What 0: how many DOWN-SETS, 1: how many EXTENSIONS, 2: DOWN-SETS of a given number of ELEMENTS"
                + " n (what 2; else n does not matter).");
        c.term("DOWN-SET: a set that has all that lie BELOW its own.");
        OrderAlgebra free = Texts.of("free 16");
        OrderAlgebra chain = Texts.of("chain 16");
        OrderAlgebra fan = Texts.of(Texts.FAN);
        for (int n = 0; n <= 16; n++) {
            c.due(choose(16, n), free.sets(2, n));
            c.due(1, chain.sets(2, n));
            c.due(n == 0 || n == 16 ? 1 : choose(14, n - 1), fan.sets(2, n));
        }
        for (int n : new int[] {0, 16, 17, -1, Integer.MAX_VALUE, Integer.MIN_VALUE}) {
            c.due(65536, free.sets(0, n));
            c.due(17, chain.sets(0, n));
            c.due((1 << 14) + 2, fan.sets(0, n));
            c.due(1, chain.sets(1, n));
        }
        OrderAlgebra one = new OrderAlgebra();
        c.due(2, one.sets(0, 0));
        c.due(1, one.sets(2, 0));
        c.due(1, one.sets(2, 1));
        c.due(168, Texts.of("cube 4").sets(0, 0));
    }

    private void extensions() {
        c.term("EXTENSION: a row of all ELEMENTS, each behind all BELOW it.");
        long factorial = 1;
        for (int n = 1; n <= 16; n++) {
            factorial *= n;
            c.due(factorial, Texts.of("free " + n).sets(1, 0));
            c.due(1, Texts.of("chain " + n).sets(1, 0));
        }
        c.due(factorial / 2, Texts.of("free 16;15<0").sets(1, 0));
        c.due(factorial / 16 / 15, Texts.of(Texts.FAN).sets(1, 0));
        c.due(1680384, Texts.of("cube 4").sets(1, 0));
        c.due(5, Texts.of("free 4;0<1;2<1;2<3").sets(1, 0));
        c.due(2, Texts.of("cube 2").sets(1, 0));
        // two of that which has 5, with numbers that go to and fro between them
        c.due(choose(8, 4) * 5 * 5, Texts.of("free 8;0<7;2<7;2<5;1<6;3<6;3<4").sets(1, 0));
    }

    /** Even ones below the odd ones beside them: extensions are the zigzag numbers, down-sets those of Fibonacci. */
    private void fences() {
        long[] zigzag = {1, 1, 2, 5, 16, 61, 272, 1385, 7936, 50521, 353792, 2702765, 22368256, 199360981,
            1903757312, 19391512145L};
        OrderAlgebra x = Texts.of("free 16");
        for (int e = 1; e < 16; e++) {
            x.relate(e % 2 == 1 ? e - 1 : e, e % 2 == 1 ? e : e - 1);
        }
        for (int turn = 0; turn < 2; turn++) {
            long downSets = 2584;
            long fewer = 1597;
            for (int n = 16; n >= 1; n--) {
                c.term("EXTENSION: a row of all ELEMENTS, each behind all BELOW it.");
                c.due(n, x.form(2, (1 << n) - 1, 0));
                c.due(zigzag[n - 1], x.sets(1, 0));
                c.term("DOWN-SET: a set that has all that lie BELOW its own.");
                c.due(downSets, x.sets(0, 0));
                c.due((n + 1) / 2, x.count(14));
                x.undo();
                long next = downSets - fewer;
                downSets = fewer;
                fewer = next;
            }
            x.form(0, 0, 0);
        }
    }

    private void setsRefused() {
        c.promise(23, "NONE for others.");
        c.outside(NONE, Checks::rich, 0, 2, (x, what) -> x.sets(what, 0));
        c.outside(NONE, Checks::rich, 0, 4, (x, n) -> x.sets(2, n));
        c.outside(NONE, Checks::sixteen, 0, 16, (x, n) -> x.sets(2, n));
        c.outside(NONE, OrderAlgebra::new, 0, 1, (x, n) -> x.sets(2, n));
        OrderAlgebra x = Texts.of("chain 16");
        c.due(1, x.sets(2, 16));
        x.form(2, 7, 0);
        c.due(1, x.sets(2, 3));
        c.due(NONE, x.sets(2, 4));
        x.undo();
        c.due(1, x.sets(2, 16));
    }

    private void types() {
        c.promise(24, "The TYPE of [a, b];");
        OrderAlgebra x = Texts.of("chain 16");
        for (int b = 0; b < 16; b++) {
            c.due(b, x.type(0, b));
            c.due(0, x.type(b, b));
            c.due(15 - b, x.type(b, 15));
        }
        c.due(0, new OrderAlgebra().type(0, 0));
        c.due(0, Texts.of("free 16").type(15, 15));
        c.term("TYPES 0, 1, ..: of ALIKE INTERVALS, numbered by the first of each ([a, b] by a, then b).");
        x = Texts.of("free 6;5<4<3<0;5<1<0");
        c.due(0, x.type(0, 0));
        c.due(1, x.type(1, 0));
        c.due(1, x.type(3, 0));
        c.due(2, x.type(4, 0));
        c.due(1, x.type(4, 3));
        c.due(3, x.type(5, 0));
        c.due(1, x.type(5, 1));
        c.due(2, x.type(5, 3));
        c.due(4, x.count(6));
        c.term("Two INTERVALS are ALIKE, if ELEMENTS of one can be paired with those of the other so that AT MOST"
                + " holds in one just where it does in the other.");
        // as many elements, as many pairs: 0 to 4 by a chain with a diamond at its top, 5 to 9 with one at its bottom
        x = Texts.of("free 10;0<1<2<4;1<3<4;5<6<8<9;5<7<8");
        c.due(5, Integer.bitCount(x.bound(0, 4, 2)));
        c.due(5, Integer.bitCount(x.bound(5, 9, 2)));
        c.due(0, x.type(0, 4) == x.type(5, 9) ? 1 : 0);
        c.due(1, x.type(1, 4) == x.type(5, 8) ? 1 : 0);
        x.form(2, 31, 0);
        x.keep(0);
        x.form(0, 0, 0);
        x.form(0, 0, 0);
        x.form(3, 0, 0);
        c.due(x.type(0, 4), x.type(5, 9));
    }

    /**
     * Below each of 13 and 14 lie four, each above two of the same four that lie above 0: these pairs make one ring or
     * two, though in both each element has as many above and below it.
     */
    private void typesOfRings() {
        c.term("Two INTERVALS are ALIKE, if ELEMENTS of one can be paired with those of the other so that AT MOST"
                + " holds in one just where it does in the other.");
        int[][][] pairs = {{{1, 2}, {2, 3}, {3, 4}, {4, 1}}, {{1, 3}, {3, 2}, {2, 4}, {4, 1}},
            {{1, 2}, {1, 2}, {3, 4}, {3, 4}}, {{1, 4}, {2, 3}, {3, 2}, {4, 1}}};
        for (int first = 0; first < 4; first++) {
            for (int second = 0; second < 4; second++) {
                OrderAlgebra x = Texts.of("free 15;0<1;0<2;0<3;0<4;5<13;6<13;7<13;8<13;9<14;10<14;11<14;12<14");
                for (int i = 0; i < 4; i++) {
                    for (int j = 0; j < 2; j++) {
                        x.relate(pairs[first][i][j], 5 + i);
                        x.relate(pairs[second][i][j], 9 + i);
                    }
                }
                c.due(3, x.type(0, 13));
                c.due(first / 2 == second / 2 ? 3 : 4, x.type(0, 14));
            }
        }
    }

    /** An order that was sought out for having many types; the naive model numbers them, too. */
    private void manyTypes() {
        c.promise(24, "The TYPE of [a, b];");
        String text = "free 16;0<2;8<9;2<3;12<13;2<6;0<1;9<11;14<15;13<14;6<9;9<10;3<5;5<8;10<12;1<3;6<7;8<11;7<11"
                + ";12<15;11<12;1<2;5<6;4<5";
        OrderAlgebra x = Texts.of(text);
        Model model = new Model();
        for (int at = 0; at < text.length(); at += 20) {
            int[] n = Texts.five(text, at);
            model.feed(n[0], n[1], n[2], n[3], n[4]);
        }
        model.end(text.length());
        c.due(16, model.tell());
        c.due(49, model.count(6));
        c.due(49, x.count(6));
        for (int a = 0; a < 16; a++) {
            for (int b = 0; b < 16; b++) {
                c.due(model.type(a, b), x.type(a, b));
            }
        }
        c.due(0, x.split(0, 48, 48));
        c.due(NONE, x.split(0, 49, 0));
    }

    /** The types of an order that is gone are gone with it. */
    private void typesOfOthers() {
        c.term("TYPES 0, 1, ..: of ALIKE INTERVALS, numbered by the first of each ([a, b] by a, then b).");
        String[] texts = {"chain 4", "chain 4", "free 4", "cube 2", "chain 16", "free 16", "cube 3"};
        int[] types = {4, 4, 1, 3, 16, 1, 4};
        OrderAlgebra x = new OrderAlgebra();
        for (int i = 0; i < texts.length; i++) {
            Texts.tell(x, texts[i]);
            c.due(types[i], x.count(6));
            c.due(0, x.type(3, 3));
        }
        for (int i = texts.length - 2; i >= 0; i--) {
            x.undo();
            c.due(types[i], x.count(6));
            c.due(NONE, x.split(types[i], 0, 0));
            c.due(0, x.type(3, 3));
        }
    }

    private void typesRefused() {
        c.promise(24, "NONE without it.");
        c.outside(NONE, Checks::rich, 0, 3, (x, n) -> x.type(n, 3));
        c.outside(NONE, Checks::rich, 0, 3, (x, n) -> x.type(0, n));
        c.outside(NONE, Checks::rich, 0, 3, (x, n) -> x.type(n, n));
        c.outside(NONE, Checks::sixteen, 0, 15, (x, n) -> x.type(n, n));
        c.outside(NONE, OrderAlgebra::new, 0, 0, (x, n) -> x.type(n, n));
        c.refused(NONE, Checks::rich, x -> x.type(3, 0), x -> x.type(1, 2), x -> x.type(1, 0));
    }

    private void splits() {
        c.promise(25, "SPLIT of t by r, s;");
        c.term("SPLIT of t by r, s: of how many x of an INTERVAL [a, b] of TYPE t [a, x] is of r, [x, b] of s.");
        OrderAlgebra x = Texts.of("chain 16");
        for (int r = 0; r < 16; r++) {
            c.due(1, x.split(15, r, 15 - r));
            c.due(0, x.split(15, r, r));
            c.due(r == 0 ? 1 : 0, x.split(0, r, 0));
            c.due(0, x.split(14, 15, r));
        }
        x = Texts.of("cube 4");
        int[] due = {1, 4, 6, 4, 1};
        for (int r = 0; r <= 4; r++) {
            c.due(due[r], x.split(4, r, 4 - r));
        }
        c.due(14, Texts.of(Texts.FAN).split(2, 1, 1));
        c.due(1, new OrderAlgebra().split(0, 0, 0));
        // the diamond stands at the top of one interval alone: r and s may not change places
        x = Texts.of("free 5;0<1<2<4;1<3<4");
        int top = x.type(1, 4);
        c.due(1, x.split(x.type(0, 4), x.type(0, 1), top));
        c.due(0, x.split(x.type(0, 4), top, x.type(0, 1)));
        c.promise(25, "NONE without these.");
        c.outside(NONE, Checks::rich, 0, 2, (y, n) -> y.split(n, 0, 0));
        c.outside(NONE, Checks::rich, 0, 2, (y, n) -> y.split(0, n, 0));
        c.outside(NONE, Checks::rich, 0, 2, (y, n) -> y.split(0, 0, n));
        c.outside(NONE, Checks::sixteen, 0, 1, (y, n) -> y.split(n, 0, 0));
        c.outside(NONE, OrderAlgebra::new, 0, 0, (y, n) -> y.split(0, n, n));
    }

    private void coefficients() {
        c.promise(32, "COEFFICIENT i (0 on);");
        c.term("COEFFICIENT i of a GRADED ORDER with an ELEMENT z that is AT MOST all: MOEBIUS [z, x] of all x whose"
                + " HEIGHT is i less than the greatest one, together.");
        OrderAlgebra x = Texts.of("chain 16");
        for (int i = 0; i <= 15; i++) {
            c.due(i == 15 ? 1 : i == 14 ? -1 : 0, x.coefficient(i));
        }
        x = Texts.of("cube 4");
        int[] due = {1, -4, 6, -4, 1};
        for (int i = 0; i <= 4; i++) {
            c.due(due[i], x.coefficient(i));
        }
        c.due(1, new OrderAlgebra().coefficient(0));
        c.due(13, Texts.of(Texts.FAN).coefficient(0));
        c.due(-14, Texts.of(Texts.FAN).coefficient(1));
        x = Texts.of("free 3;2<0;2<1");
        c.due(-2, x.coefficient(0));
        c.due(1, x.coefficient(1));
    }

    private void coefficientsRefused() {
        c.promise(32, "Long.MIN_VALUE without it, or if the ORDER is not such.");
        c.outside(NO, OrderAlgebra::new, 0, 0, (x, i) -> x.coefficient(i));
        c.outside(NO, Checks::rich, 0, 2, (x, i) -> x.coefficient(i));
        c.outside(NO, () -> Texts.of("cube 3"), 0, 3, (x, i) -> x.coefficient(i));
        c.due(NO, Texts.of("chain 16").coefficient(16));
        c.due(NO, Texts.of("chain 16").coefficient(-1));
        for (String text : new String[] {"free 2", "free 16", "free 3;0<2;1<2", "free 5;0<1<2<4;0<3<4"}) {
            c.refused(NO, () -> Texts.of(text), x -> x.coefficient(0), x -> x.coefficient(1));
        }
    }
}
