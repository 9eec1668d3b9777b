/** Boundary cases of promises 5, 6, 15, 18, 19 and 33: orders related, formed and kept, and what is asked of them. */
final class OrderBounds {
    private static final int NONE = Checks.NONE;
    private static final int[] ANY = {0, 1, -1, 16, Integer.MAX_VALUE, Integer.MIN_VALUE};

    private final Checks c;

    OrderBounds(Checks c) {
        this.c = c;
    }

    void all() {
        below();
        relate();
        behindUndo();
        relateRefused();
        turned();
        interval();
        set();
        beside();
        above();
        pairs();
        formRefused();
        anotherOrder();
        keep();
        about();
        heights();
        bound();
        count();
        countsOfExtremes();
        lattices();
        graded();
    }

    private void below() {
        c.term("some lie BELOW others, never one BELOW itself; what lies BELOW one that lies BELOW a third lies BELOW"
                + " that, too.");
        OrderAlgebra x = Texts.of("free 16;15<0;14<15;0<7");
        c.due(1 | 1 << 7 | 1 << 14 | 1 << 15, x.about(14, 1));
        c.due(1 | 1 << 7 | 1 << 14 | 1 << 15, x.about(7, 0));
        x.relate(7, 1);
        c.due(1 | 2 | 1 << 7 | 1 << 14 | 1 << 15, x.about(14, 1));
        c.due(-3, x.relate(1, 14));
        c.due(-3, x.relate(1, 1));
        c.term("a AT MOST b: BELOW it, or it.");
        c.due(2, x.about(1, 1));
        c.due(1 << 14, x.about(14, 0));
        c.due(2, x.bound(1, 1, 2));
    }

    private void relate() {
        c.promise(5, "a is BELOW b from now on: how many COVER others (pairs);");
        OrderAlgebra x = Texts.of("free 16");
        c.due(1, x.relate(0, 15));
        c.due(1 | 1 << 15, x.about(0, 1));
        c.due(2, x.relate(15, 1));
        c.due(3, x.relate(14, 15));
        x = Texts.of("free 4;0<1;2<3;0<3");
        c.due(3, x.count(2));
        c.due(3, x.relate(1, 3));
        c.due(2, x.about(0, 2));
        x = Texts.of("free 3;0<1;0<2");
        c.due(2, x.relate(1, 2));
        c.due(3, x.count(1));
        x = Texts.of("free 16;0<1<2<3<4<5<6<7<8<9<10<11<12<13<14");
        c.due(15, x.relate(14, 15));
        c.due(120, x.count(1));
    }

    /** An order that was come back to, not the one left behind, is related, turned or cut. */
    private void behindUndo() {
        Checks.Call[] acts = {x -> x.relate(0, 1), x -> x.form(0, 0, 0), x -> x.form(2, 15, 0)};
        int[] answers = {2, 4, 4};
        int[] pairs = {2, 1, 1};
        for (int act = 0; act < acts.length; act++) {
            OrderAlgebra x = Texts.of("free 4;3<2");
            Texts.tell(x, "chain 7");
            x.undo();
            c.due(answers[act], acts[act].on(x));
            c.due(4, x.count(0));
            c.due(pairs[act], x.count(1));
        }
    }

    private void relateRefused() {
        c.promise(5, "-2, and nothing happens: it is;");
        c.refused(-2, Checks::rich, x -> x.relate(0, 1), x -> x.relate(0, 3), x -> x.relate(1, 3));
        c.refused(-2, Checks::sixteen, x -> x.relate(14, 15));
        c.promise(5, "-3: one would be BELOW itself;");
        c.refused(-3, Checks::rich, x -> x.relate(3, 0), x -> x.relate(1, 0), x -> x.relate(2, 2), x -> x.relate(3, 3));
        c.refused(-3, OrderAlgebra::new, x -> x.relate(0, 0));
        c.refused(-3, Checks::sixteen, x -> x.relate(15, 15), x -> x.relate(15, 14));
        c.promise(5, "NONE, and nothing happens, without these.");
        c.outside(NONE, Checks::rich, 0, 3, (x, n) -> x.relate(n, 1));
        c.outside(NONE, Checks::rich, 0, 3, (x, n) -> x.relate(1, n));
        c.outside(NONE, Checks::rich, 0, 3, (x, n) -> x.relate(n, n));
        c.outside(NONE, Checks::sixteen, 0, 15, (x, n) -> x.relate(n, 3));
        c.outside(NONE, Checks::sixteen, 0, 15, (x, n) -> x.relate(3, n));
    }

    private void turned() {
        c.promise(6, "Another ORDER is formed, how 0: turned round (a, b do not matter),");
        for (int any : ANY) {
            OrderAlgebra x = Texts.of("free 4;0<1<3;0<2");
            c.due(4, x.form(0, any, -any));
            c.due(1 | 2 | 8, x.about(3, 1));
            c.due(1 | 4, x.about(2, 1));
            c.due(1, x.about(0, 1));
        }
        c.due(1, new OrderAlgebra().form(0, 0, 0));
        OrderAlgebra x = Texts.of("chain 16");
        c.due(16, x.form(0, 0, 0));
        c.due(65535, x.about(15, 1));
    }

    private void interval() {
        c.promise(6, "1: of ELEMENTS of [a, b] alone,");
        c.due(1, Texts.of("chain 16").form(1, 0, 0));
        c.due(1, Texts.of("chain 16").form(1, 15, 15));
        c.due(2, Texts.of("chain 16").form(1, 14, 15));
        OrderAlgebra x = Texts.of("chain 16");
        c.due(16, x.form(1, 0, 15));
        c.due(65535, x.about(0, 1));
        x = Texts.of("free 6;5<4<0;5<2<0;1<0");
        c.due(4, x.form(1, 5, 0));
        c.due(15, x.about(3, 1));
        c.due(1 | 4, x.about(2, 1));
        c.due(1 | 2, x.about(1, 1));
        c.due(1, new OrderAlgebra().form(1, 0, 0));
    }

    private void set() {
        c.promise(6, "2: of those of a set a (bits) alone (b does not matter), each in their row;");
        for (int any : ANY) {
            OrderAlgebra x = Texts.of("free 16;15<8<0;15<3");
            c.due(3, x.form(2, 1 << 15 | 1 << 3 | 1, any));
            c.due(7, x.about(2, 1));
            c.due(1, x.about(0, 1));
        }
        c.due(1, Texts.of("chain 16").form(2, 1, 0));
        c.due(1, Texts.of("chain 16").form(2, 1 << 15, 0));
        c.due(16, Texts.of("chain 16").form(2, 65535, 0));
        c.due(15, Texts.of("chain 16").form(2, 65534, 0));
        c.due(1, new OrderAlgebra().form(2, 1, 0));
        OrderAlgebra x = Texts.of("chain 16");
        x.form(2, 65535, 0);
        c.due(65535, x.about(0, 1));
    }

    /** An order of so many elements, with another one kept on a shelf. */
    private static OrderAlgebra two(String here, String kept, int shelf) {
        OrderAlgebra x = Texts.of(kept);
        x.keep(shelf);
        Texts.tell(x, here);
        return x;
    }

    private void beside() {
        c.promise(6, "3: of that KEPT on SHELF a beside it,");
        for (int any : ANY) {
            OrderAlgebra x = two("chain 2", "free 3;2<0", 1);
            c.due(5, x.form(3, 1, any));
            c.due(3, x.about(0, 1));
            c.due(2, x.about(1, 1));
            c.due(4, x.about(2, 1));
            c.due(4 | 16, x.about(4, 1));
        }
        c.due(2, two("chain 1", "chain 1", 0).form(3, 0, 0));
        c.due(16, two("chain 8", "chain 8", 0).form(3, 0, 0));
        c.due(16, two("chain 15", "chain 1", 1).form(3, 1, 0));
        c.due(16, two("chain 1", "chain 15", 1).form(3, 1, 0));
        OrderAlgebra x = two("chain 1", "chain 15", 1);
        x.form(3, 1, 0);
        c.due(65534, x.about(1, 1));
        c.due(1, x.about(0, 1));
    }

    private void above() {
        c.promise(6, "4: above it (all of these BELOW all of that),");
        for (int any : ANY) {
            OrderAlgebra x = two("free 2", "free 3;2<0", 0);
            c.due(5, x.form(4, 0, any));
            c.due(1 | 4 | 8 | 16, x.about(0, 1));
            c.due(2 | 4 | 8 | 16, x.about(1, 1));
            c.due(4, x.about(2, 1));
            c.due(8, x.about(3, 1));
            c.due(4 | 16, x.about(4, 1));
        }
        c.due(2, two("chain 1", "chain 1", 0).form(4, 0, 0));
        c.due(16, two("chain 15", "chain 1", 1).form(4, 1, 0));
        OrderAlgebra x = two("chain 8", "chain 8", 0);
        c.due(16, x.form(4, 0, 0));
        c.due(120, x.count(1));
    }

    private void pairs() {
        c.promise(6, "5: of pairs: x here, y there is number x times how many are there, and y; AT MOST, if both are:");
        for (int any : ANY) {
            OrderAlgebra x = two("chain 2", "free 3;2<0", 1);
            c.due(6, x.form(5, 1, any));
            c.due(1 | 8, x.about(0, 1));
            c.due(2 | 16, x.about(1, 1));
            c.due(1 | 4 | 8 | 32, x.about(2, 1));
            c.due(8 | 32, x.about(5, 1));
        }
        c.due(1, two("chain 1", "chain 1", 0).form(5, 0, 0));
        c.due(16, two("chain 16", "chain 1", 0).form(5, 0, 0));
        OrderAlgebra x = two("chain 1", "chain 16", 1);
        c.due(16, x.form(5, 1, 0));
        c.due(120, x.count(1));
        x = two("chain 8", "free 2", 1);
        c.due(16, x.form(5, 1, 0));
        c.due(0b0101010101010101, x.about(0, 1));
        c.due(0b1010101010101010, x.about(15, 0));
        c.due(16, two("free 4", "free 4", 0).form(5, 0, 0));
        c.promise(6, "how many ELEMENTS;");
        c.due(16, x.count(0));
    }

    private void formRefused() {
        c.promise(6, "-2, and nothing happens: more than 16;");
        c.refused(-2, () -> two("free 8", "free 9", 1), x -> x.form(3, 1, 0), x -> x.form(4, 1, 0),
                x -> x.form(5, 1, 0));
        c.refused(-2, () -> two("free 16", "free 1", 0), x -> x.form(3, 0, 0), x -> x.form(4, 0, 0));
        c.refused(-2, () -> two("free 1", "free 16", 0), x -> x.form(3, 0, 0), x -> x.form(4, 0, 0));
        c.refused(-2, () -> two("free 6", "free 3", 0), x -> x.form(5, 0, 0));
        c.refused(-2, () -> two("free 2", "free 9", 0), x -> x.form(5, 0, 0));
        c.refused(-2, () -> two("free 16", "free 16", 0), x -> x.form(3, 0, 0), x -> x.form(4, 0, 0),
                x -> x.form(5, 0, 0));
        c.promise(6, "NONE, and nothing happens, without these, for a set without ELEMENTS, or others.");
        c.outside(NONE, Checks::rich, 0, 5, (x, n) -> x.form(n, 1, 1));
        c.outside(NONE, Checks::rich, 0, 3, (x, n) -> x.form(1, n, 3));
        c.outside(NONE, Checks::rich, 0, 3, (x, n) -> x.form(1, 0, n));
        c.outside(NONE, Checks::rich, 0, 3, (x, n) -> x.form(1, n, n));
        c.refused(NONE, Checks::rich, x -> x.form(1, 1, 0), x -> x.form(1, 1, 2));
        c.outside(NONE, Checks::rich, 1, 15, (x, n) -> x.form(2, n, 0));
        c.refused(NONE, Checks::rich, x -> x.form(2, 16 | 1, 0), x -> x.form(2, 1 << 31 | 15, 0));
        c.outside(NONE, Checks::sixteen, 1, 65535, (x, n) -> x.form(2, n, 0));
        c.refused(NONE, OrderAlgebra::new, x -> x.form(2, 0, 0), x -> x.form(2, 2, 0), x -> x.form(2, 3, 0));
        for (int how = 3; how <= 5; how++) {
            int which = how;
            c.outside(NONE, Checks::rich, 0, 1, (x, n) -> x.form(which, n, 0));
            c.refused(NONE, OrderAlgebra::new, x -> x.form(which, 0, 0), x -> x.form(which, 1, 0));
            c.refused(NONE, () -> two("free 2", "free 2", 0), x -> x.form(which, 1, 0));
            c.refused(NONE, () -> two("free 2", "free 2", 1), x -> x.form(which, 0, 0));
            c.refused(NONE, () -> two("free 16", "free 16", 1), x -> x.form(which, 0, 0));
        }
    }

    /** Even if it is just as the one before it: told once more, cut to all of it, or paired with a single element. */
    private void anotherOrder() {
        Checks.Call[] acts = {x -> Texts.tell(x, "free 3;0<1"), x -> x.form(0, 0, 0), x -> x.form(1, 0, 1),
            x -> x.form(2, 7, 0), x -> x.form(3, 1, 0), x -> x.form(4, 1, 0), x -> x.form(5, 1, 0),
            x -> x.relate(1, 2)};
        int[] answers = {3, 3, 2, 3, 4, 4, 3, 2};
        for (int act = 0; act < acts.length; act++) {
            OrderAlgebra x = two("free 3;0<1", "chain 1", 1);
            x.keep(0);
            for (int i = 0; i < 4; i++) {
                x.make(i, 2);
                x.data(i, 3);
                x.point(i, 2);
            }
            c.term("at first and with each other ORDER 0.");
            c.due(answers[act], acts[act].on(x));
            for (int a = 0; a < x.count(0); a++) {
                for (int function = 0; function < 4; function++) {
                    c.due(0, x.value(function, a, a));
                }
            }
            c.term("DATA: a value (64 bits) of each ELEMENT (0 at first, and with each other ORDER).");
            for (int a = 0; a < x.count(0); a++) {
                c.due(0, x.summed(a, 0));
            }
            c.term("THE MAP: of each ELEMENT one of the ORDER KEPT on SHELF 0 (none at first, with each other ORDER,");
            for (int a = 0; a < x.count(0); a++) {
                c.due(-2, x.about(a, 5));
            }
        }
    }

    private void keep() {
        c.promise(15, "The ORDER is KEPT on a SHELF: how many ELEMENTS;");
        OrderAlgebra x = new OrderAlgebra();
        c.due(1, x.keep(0));
        c.due(1, x.count(10));
        Texts.tell(x, "chain 16");
        c.due(16, x.keep(1));
        c.due(3, x.count(10));
        c.due(1, x.count(8));
        c.due(1, x.form(2, 1, 0));
        c.due(16, x.form(5, 1, 0));
        c.due(120, x.count(1));
        x.form(2, 7, 0);
        c.due(3, x.keep(1));
        x.relate(0, 1);
        x.form(0, 0, 0);
        x.form(2, 1, 0);
        c.due(3, x.form(5, 1, 0));
        c.due(7, x.about(0, 1));
        c.promise(15, "NONE, and nothing happens, without that SHELF.");
        c.outside(NONE, Checks::rich, 0, 1, (y, n) -> y.keep(n));
        c.outside(NONE, Checks::mapped, 0, 1, (y, n) -> y.keep(n));
        c.outside(NONE, OrderAlgebra::new, 0, 1, (y, n) -> y.keep(n));
        c.term("SHELVES 0, 1: ORDERS KEPT.");
        c.due(1, new OrderAlgebra().keep(0));
        c.due(1, new OrderAlgebra().keep(1));
        c.due(NONE, new OrderAlgebra().keep(2));
    }

    private void about() {
        c.promise(18, "Of an ELEMENT what 0: those AT MOST it (bits), 1: those it is AT MOST (bits),");
        OrderAlgebra x = Texts.of("chain 16");
        c.due(1, x.about(0, 0));
        c.due(65535, x.about(15, 0));
        c.due(65535, x.about(0, 1));
        c.due(1 << 15, x.about(15, 1));
        c.promise(18, "2: those that COVER it (bits), 3: those it COVERS (bits),");
        c.due(2, x.about(0, 2));
        c.due(0, x.about(15, 2));
        c.due(0, x.about(0, 3));
        c.due(1 << 14, x.about(15, 3));
        c.term("b COVERS a: a is BELOW b, and none between.");
        x = Texts.of("free 16;0<1;0<2;0<3;0<4;0<5;0<6;0<7;0<8;0<9;0<10;0<11;0<12;0<13;0<14;0<15");
        c.due(65534, x.about(0, 2));
        x.relate(1, 15);
        c.due(65534 ^ 1 << 15, x.about(0, 2));
        c.due(2, x.about(15, 3));
        x.form(0, 0, 0);
        c.due(65534 ^ 1 << 15, x.about(0, 3));
        c.promise(18, "4: HEIGHT, 5: its one by THE MAP (-2: none).");
        x = Checks.rich();
        c.due(0, x.about(0, 4));
        c.due(2, x.about(3, 4));
        c.due(1, x.about(0, 5));
        c.due(-2, x.about(1, 5));
        x.point(0, 0);
        c.due(0, x.about(0, 5));
        c.due(-2, new OrderAlgebra().about(0, 5));
        c.promise(18, "NONE without these.");
        for (int what = 0; what < 6; what++) {
            int which = what;
            c.outside(NONE, Checks::rich, 0, 3, (y, n) -> y.about(n, which));
            c.outside(NONE, Checks::sixteen, 0, 15, (y, n) -> y.about(n, which));
            c.outside(NONE, OrderAlgebra::new, 0, 0, (y, n) -> y.about(n, which));
        }
        c.outside(NONE, Checks::rich, 0, 5, (y, n) -> y.about(0, n));
    }

    private void heights() {
        c.term("HEIGHT: of the longest row of ELEMENTS, each BELOW the next, that ends with it how many are ahead of"
                + " it.");
        OrderAlgebra x = Texts.of("chain 16");
        c.due(0, x.about(0, 4));
        c.due(15, x.about(15, 4));
        x.form(0, 0, 0);
        c.due(15, x.about(0, 4));
        x = Texts.of("free 6;5<4<3<0;5<0;2<0");
        c.due(3, x.about(0, 4));
        c.due(0, x.about(1, 4));
        c.due(0, x.about(2, 4));
        c.due(2, x.about(3, 4));
    }

    private void bound() {
        c.promise(19, "Of two what 0: JOIN, 1: MEET (-2: there is none),");
        OrderAlgebra x = Texts.of("free 4;0<2;0<3;1<2;1<3");
        c.due(-2, x.bound(0, 1, 0));
        c.due(-2, x.bound(2, 3, 1));
        c.due(-2, x.bound(2, 3, 0));
        c.due(-2, x.bound(0, 1, 1));
        c.due(3, x.bound(3, 3, 0));
        c.due(3, x.bound(3, 3, 1));
        c.due(2, x.bound(0, 2, 0));
        c.due(2, x.bound(2, 0, 0));
        c.due(0, x.bound(0, 2, 1));
        c.due(0, x.bound(2, 0, 1));
        c.due(0, new OrderAlgebra().bound(0, 0, 0));
        c.due(15, Texts.of("chain 16").bound(0, 15, 0));
        c.due(0, Texts.of("chain 16").bound(0, 15, 1));
        c.term("JOIN of two: of those that both are AT MOST the one AT MOST all others of these; MEET likewise.");
        x = Texts.of("free 6;0<2;1<2;2<3;2<4;0<5;1<5;5<3");
        c.due(-2, x.bound(0, 1, 0));
        x.form(2, 31, 0);
        c.due(2, x.bound(0, 1, 0));
        c.due(2, x.bound(3, 4, 1));
        c.promise(19, "2: the INTERVAL (bits; 0: the first is not AT MOST the second).");
        c.due(65535, Texts.of("chain 16").bound(0, 15, 2));
        c.due(1 << 15, Texts.of("chain 16").bound(15, 15, 2));
        c.due(0, Texts.of("chain 16").bound(15, 0, 2));
        c.due(0, Texts.of("chain 16").bound(1, 0, 2));
        c.due(0, Texts.of("free 16").bound(0, 15, 2));
        c.due(1, new OrderAlgebra().bound(0, 0, 2));
        c.term("INTERVAL [a, b], a AT MOST b: all x, a AT MOST x, x AT MOST b.");
        c.due(1 | 4 | 8, x.bound(0, 3, 2));
        c.due(8, x.bound(3, 3, 2));
        c.promise(19, "NONE without these.");
        for (int what = 0; what < 3; what++) {
            int which = what;
            c.outside(NONE, Checks::rich, 0, 3, (y, n) -> y.bound(n, 0, which));
            c.outside(NONE, Checks::rich, 0, 3, (y, n) -> y.bound(0, n, which));
            c.outside(NONE, Checks::rich, 0, 3, (y, n) -> y.bound(n, n, which));
        }
        c.outside(NONE, Checks::rich, 0, 2, (y, n) -> y.bound(0, 1, n));
    }

    private void count() {
        c.promise(33, "What 0: ELEMENTS, 1: pairs of which one is BELOW the other, 2: pairs of which one COVERS the"
                + " other, 3: the greatest HEIGHT,");
        counts("chain 16", 16, 120, 15, 15);
        counts("free 16", 16, 0, 0, 0);
        counts("cube 0", 1, 0, 0, 0);
        counts("cube 4", 16, 81 - 16, 32, 4);
        OrderAlgebra x = two("free 8", "free 8", 0);
        x.form(4, 0, 0);
        c.due(64, x.count(1));
        c.due(64, x.count(2));
        c.due(1, x.count(3));
        c.due(2, Texts.of("free 3;2<1<0").count(3));
        c.promise(33, "6: TYPES, 7: INTERVALS, 8: ACTS that can be UNDONE, 9: bytes of the TAPE,");
        c.due(1, Texts.of("free 16").count(6));
        c.due(16, Texts.of("chain 16").count(6));
        c.due(16, Texts.of("free 16").count(7));
        c.due(136, Texts.of("chain 16").count(7));
        x = new OrderAlgebra();
        for (int acts = 0; acts <= 10; acts++) {
            c.due(Math.min(acts, 8), x.count(8));
            x.data(0, acts + 1);
        }
        c.due(0, x.count(9));
        c.due(120, Checks.sixteen().count(9));
        c.promise(33, "10: SHELVES on which an ORDER is KEPT, as bits,");
        c.due(0, x.count(10));
        x.keep(1);
        c.due(2, x.count(10));
        x.keep(0);
        c.due(3, x.count(10));
        c.due(1, two("free 2", "free 2", 0).count(10));
        c.promise(33, "NONE for others.");
        c.outside(NONE, Checks::rich, 0, 14, (y, n) -> y.count(n));
        c.outside(NONE, OrderAlgebra::new, 0, 14, (y, n) -> y.count(n));
    }

    private void counts(String text, int... want) {
        for (int what = 0; what < want.length; what++) {
            c.due(want[what], Texts.of(text).count(what));
        }
    }

    private void countsOfExtremes() {
        c.promise(33, "11: ELEMENTS that none is BELOW (bits), 12: those that are BELOW none (bits),");
        c.due(65535, Texts.of("free 16").count(11));
        c.due(65535, Texts.of("free 16").count(12));
        c.due(1, Texts.of("chain 16").count(11));
        c.due(1 << 15, Texts.of("chain 16").count(12));
        c.due(1, new OrderAlgebra().count(11));
        c.due(1, new OrderAlgebra().count(12));
        OrderAlgebra x = Texts.of("free 4;3<0;3<1");
        c.due(4 | 8, x.count(11));
        c.due(1 | 2 | 4, x.count(12));
        c.promise(33, "13: FUNCTIONS that are REDUCED (bits),");
        c.due(15, new OrderAlgebra().count(13));
        x = Texts.of("chain 2");
        for (int function = 3; function >= 0; function--) {
            x.put(function, 1, 1, 1);
            c.due((1 << function) - 1, x.count(13));
        }
        for (int function = 0; function < 4; function++) {
            x.put(function, 0, 0, 1);
            c.due((2 << function) - 1, x.count(13));
        }
        c.promise(33, "14: the most ELEMENTS none of which is BELOW another one.");
        c.due(1, new OrderAlgebra().count(14));
        c.due(1, Texts.of("chain 16").count(14));
        c.due(16, Texts.of("free 16").count(14));
        c.due(15, Texts.of("free 16;0<15").count(14));
        c.due(6, Texts.of("cube 4").count(14));
        c.due(7, Texts.of("parts 4").count(14));
    }

    private void lattices() {
        c.promise(33, "5: whether any two have a JOIN and a MEET,");
        c.due(1, new OrderAlgebra().count(5));
        c.due(1, Texts.of("chain 16").count(5));
        c.due(1, Texts.of("cube 4").count(5));
        c.due(0, Texts.of("free 2").count(5));
        c.due(0, Texts.of("free 3;0<1;0<2").count(5));
        c.due(0, Texts.of("free 3;1<0;2<0").count(5));
        c.due(0, Texts.of("free 6;0<1<3<5;0<2<4<5;1<4;2<3").count(5));
        c.due(1, Texts.of("free 6;0<1<3<5;0<2<4<5;1<4").count(5));
        c.due(0, Texts.of("free 16").count(5));
        // the two that have none, by every number
        for (String text : new String[] {"free 3;1<0;1<2", "free 3;2<0;2<1", "free 3;0<1;2<1", "free 3;0<2;1<2"}) {
            c.due(0, Texts.of(text).count(5));
        }
    }

    private void graded() {
        c.promise(33, "4: whether GRADED (1, 0),");
        c.due(1, new OrderAlgebra().count(4));
        c.due(1, Texts.of("free 16").count(4));
        c.due(1, Texts.of("chain 16").count(4));
        c.term("GRADED: HEIGHT of each is one more than that of all that it COVERS.");
        c.due(0, Texts.of("free 5;0<1<2<4;0<3<4").count(4));
        c.due(1, Texts.of("free 5;0<1<2<4;0<3<2").count(4));
        c.due(0, Texts.of("free 4;0<1<2;3<2").count(4));
        c.due(1, Texts.of("free 4;0<1<2;0<3").count(4));
        c.due(0, Texts.of("free 4;3<1<0;2<0").count(4));
        c.due(0, Texts.of("free 4;3<1<2;0<2").count(4));
    }
}
