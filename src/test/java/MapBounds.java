/** Boundary cases of promises 12 to 14 and 27 to 31: data and their sums, undoing, and the map. */
final class MapBounds {
    private static final int NONE = Checks.NONE;
    private static final long NO = Checks.NO;
    private static final long MOST = Long.MAX_VALUE;
    private static final long LEAST = Long.MIN_VALUE;

    private final Checks c;

    MapBounds(Checks c) {
        this.c = c;
    }

    void all() {
        data();
        summed();
        summedOverflows();
        gotBack();
        gotBackOverflows();
        sumsRefused();
        point();
        undoEach();
        undoEight();
        undoAgain();
        undoAndShelves();
        mapGone();
        mapped();
        monotone();
        adjoints();
        adjointRefused();
        sides();
        sidesRefused();
    }

    private void data() {
        c.promise(12, "DATA of an ELEMENT is told: 1;");
        OrderAlgebra x = Texts.of("free 16");
        for (long value : new long[] {1, -1, MOST, LEAST + 1, 1L << 32, LEAST, 0}) {
            c.due(1, x.data(0, value));
            c.due(value, x.summed(0, 0));
            c.due(1, x.data(15, value));
            c.due(value, x.summed(15, 1));
        }
        c.promise(12, "-2, and nothing happens: it is so;");
        c.refused(-2, Checks::rich, y -> y.data(1, 5), y -> y.data(0, 0), y -> y.data(3, 0));
        c.refused(-2, OrderAlgebra::new, y -> y.data(0, 0));
        c.refused(-2, Checks::sixteen, y -> y.data(15, -1));
        x = new OrderAlgebra();
        c.due(1, x.data(0, 1L << 32));
        c.due(1, x.data(0, 0));
        c.due(1, x.data(0, LEAST));
        c.due(-2, x.data(0, LEAST));
        c.due(1, x.data(0, MOST));
        c.due(-2, x.data(0, MOST));
        c.promise(12, "NONE, and nothing happens, without it.");
        c.outside(NONE, Checks::rich, 0, 3, (y, n) -> y.data(n, 5));
        c.outside(NONE, Checks::rich, 0, 3, (y, n) -> y.data(n, 0));
        c.outside(NONE, Checks::sixteen, 0, 15, (y, n) -> y.data(n, 5));
        c.outside(NONE, OrderAlgebra::new, 0, 0, (y, n) -> y.data(n, 5));
    }

    private static OrderAlgebra with(String text, long... data) {
        OrderAlgebra x = Texts.of(text);
        for (int e = 0; e < data.length; e++) {
            x.data(e, data[e]);
        }
        return x;
    }

    private void summed() {
        c.promise(27, "SUMMED at an ELEMENT (how 0, 1);");
        c.term("SUMMED at x: DATA of all AT MOST x (how 0), of all x is AT MOST (1), together, by numbers.");
        OrderAlgebra x = Texts.of("chain 16");
        for (int e = 0; e < 16; e++) {
            x.data(e, 1L << 3 * e);
        }
        long all = ((1L << 48) - 1) / 7;
        c.due(1, x.summed(0, 0));
        c.due(all, x.summed(15, 0));
        c.due(all, x.summed(0, 1));
        c.due(1L << 45, x.summed(15, 1));
        c.due(0, new OrderAlgebra().summed(0, 0));
        c.due(0, new OrderAlgebra().summed(0, 1));
        x = with("free 4;1<0;1<2", 1, 20, 300, 4000);
        c.due(21, x.summed(0, 0));
        c.due(1, x.summed(0, 1));
        c.due(321, x.summed(1, 1));
        c.due(4000, x.summed(3, 0));
    }

    /** 1 and 2 below 0, or 0 below 1 and 2: each time the sum at 0 is of all three by numbers. */
    private void sumAtNought(long want, long wantBack, long... data) {
        OrderAlgebra x = with("free 3;1<0;2<0", data);
        c.due(want, x.summed(0, 0));
        c.due(wantBack, x.gotBack(0, 0));
        x = with("free 3;0<1;0<2", data);
        c.due(want, x.summed(0, 1));
        c.due(wantBack, x.gotBack(0, 1));
    }

    private void summedOverflows() {
        c.promise(27, "Long.MIN_VALUE without these, or if it OVERFLOWS.");
        sumAtNought(MOST, NO, MOST, -1, 1);
        sumAtNought(NO, MOST, MOST, 1, -1);
        sumAtNought(NO, MOST - 2, MOST, 1, 1);
        sumAtNought(MOST, MOST, MOST, 0, 0);
        sumAtNought(LEAST + 1, LEAST + 1, LEAST + 1, 0, 0);
        sumAtNought(LEAST + 1, NO, LEAST, 2, -1);
        sumAtNought(NO, LEAST + 1, LEAST, -2, 1);
        sumAtNought(MOST - 1, NO, MOST, LEAST, MOST);
        sumAtNought(NO, -MOST, MOST, MOST, MOST);
        sumAtNought(-1, NO, 0, LEAST, MOST);
        sumAtNought(-1, NO, 0, MOST, LEAST);
        sumAtNought(LEAST + 2, MOST - 1, 0, LEAST + 1, 1);
        c.refused(NO, () -> with("chain 2", MOST, 1), y -> y.summed(0, 1), y -> y.summed(1, 0));
        OrderAlgebra x = with("chain 2", MOST, 1);
        c.due(MOST, x.summed(0, 0));
        c.due(1, x.summed(1, 1));
    }

    private void gotBack() {
        c.promise(28, "GOT BACK at an ELEMENT (how 0, 1);");
        c.term("GOT BACK at x: the sum of DATA of y times MOEBIUS [y, x], y AT MOST x (0), times MOEBIUS [x, y], x AT"
                + " MOST y (1), by numbers.");
        OrderAlgebra x = with("chain 3", LEAST, 20, 300);
        c.due(280, x.gotBack(2, 0));
        c.due(20 - 300, x.gotBack(1, 1));
        c.due(300, x.gotBack(2, 1));
        x = with("chain 3", 1, 20, LEAST);
        c.due(-19, x.gotBack(0, 1));
        c.due(19, x.gotBack(1, 0));
        c.due(1, x.gotBack(0, 0));
        c.due(0, new OrderAlgebra().gotBack(0, 0));
        c.due(0, new OrderAlgebra().gotBack(0, 1));
        c.due(MOST, with("free 1", MOST).gotBack(0, 0));
        c.due(LEAST + 1, with("free 1", LEAST + 1).gotBack(0, 1));
        x = Texts.of("chain 16");
        x.data(15, 9);
        x.data(14, 4);
        c.due(5, x.gotBack(15, 0));
        c.due(9, x.gotBack(15, 1));
        c.due(-5, x.gotBack(14, 1));
        c.due(0, x.gotBack(0, 1));
    }

    private void gotBackOverflows() {
        c.promise(28, "Long.MIN_VALUE without these, or if it OVERFLOWS.");
        c.due(MOST, with("chain 2", LEAST + 1, 0).gotBack(1, 0));
        c.due(MOST - 1, with("chain 2", LEAST + 1, -1).gotBack(1, 0));
        c.due(NO, with("chain 2", LEAST + 1, 1).gotBack(1, 0));
        c.due(NO, with("chain 2", LEAST, 0).gotBack(1, 0));
        c.due(NO, with("chain 2", LEAST, -1).gotBack(1, 0));
        c.due(-1, with("chain 2", -1, LEAST).gotBack(0, 0));
        c.due(NO, with("chain 2", -1, LEAST).gotBack(0, 1));
        c.due(MOST, with("chain 2", 0, -MOST).gotBack(0, 1));
        c.due(NO, with("chain 2", 1, -MOST).gotBack(0, 1));
        // the Moebius value of the whole is 13
        c.due(MOST / 13 * 13, with(Texts.FAN, MOST / 13).gotBack(15, 0));
        c.due(NO, with(Texts.FAN, MOST / 13 + 1).gotBack(15, 0));
        c.due(LEAST / 13 * 13, with(Texts.FAN, LEAST / 13).gotBack(15, 0));
        c.due(NO, with(Texts.FAN, LEAST / 13 - 1).gotBack(15, 0));
        c.refused(NO, () -> with("chain 2", LEAST, 0), y -> y.gotBack(1, 0));
        c.refused(NO, () -> with("chain 2", 0, LEAST), y -> y.gotBack(0, 1));
    }

    private void sumsRefused() {
        c.promise(27, "Long.MIN_VALUE without these, or if it OVERFLOWS.");
        c.outside(NO, Checks::rich, 0, 1, (x, how) -> x.summed(0, how));
        c.promise(28, "Long.MIN_VALUE without these, or if it OVERFLOWS.");
        c.outside(NO, Checks::rich, 0, 1, (x, how) -> x.gotBack(0, how));
        for (int how = 0; how < 2; how++) {
            int which = how;
            c.promise(27, "Long.MIN_VALUE without these, or if it OVERFLOWS.");
            c.outside(NO, Checks::rich, 0, 3, (x, n) -> x.summed(n, which));
            c.outside(NO, Checks::sixteen, 0, 15, (x, n) -> x.summed(n, which));
            c.outside(NO, OrderAlgebra::new, 0, 0, (x, n) -> x.summed(n, which));
            c.promise(28, "Long.MIN_VALUE without these, or if it OVERFLOWS.");
            c.outside(NO, Checks::rich, 0, 3, (x, n) -> x.gotBack(n, which));
            c.outside(NO, Checks::sixteen, 0, 15, (x, n) -> x.gotBack(n, which));
            c.outside(NO, OrderAlgebra::new, 0, 0, (x, n) -> x.gotBack(n, which));
        }
    }

    private static OrderAlgebra to(String there, String here) {
        OrderAlgebra x = Texts.of(there);
        x.keep(0);
        Texts.tell(x, here);
        return x;
    }

    private void point() {
        c.promise(13, "THE MAP's one of x is y: 1;");
        OrderAlgebra x = to("chain 16", "free 16");
        int[][] pairs = {{0, 0}, {0, 15}, {15, 15}, {15, 0}};
        for (int[] pair : pairs) {
            c.due(1, x.point(pair[0], pair[1]));
            c.due(pair[1], x.about(pair[0], 5));
        }
        x = new OrderAlgebra();
        x.keep(0);
        c.due(1, x.point(0, 0));
        c.due(0, x.about(0, 5));
        c.promise(13, "-2, and nothing happens: it is so;");
        c.refused(-2, Checks::mapped, y -> y.point(0, 0), y -> y.point(1, 1), y -> y.point(2, 1));
        c.refused(-2, Checks::rich, y -> y.point(0, 1));
        c.promise(13, "NONE, and nothing happens, without these, or if nothing is KEPT on SHELF 0.");
        c.outside(NONE, Checks::mapped, 0, 2, (y, n) -> y.point(n, 0));
        c.outside(NONE, Checks::mapped, 0, 1, (y, n) -> y.point(1, n));
        c.outside(NONE, Checks::rich, 0, 3, (y, n) -> y.point(n, 0));
        c.outside(NONE, Checks::rich, 0, 1, (y, n) -> y.point(1, n));
        c.refused(NONE, Checks::mapped, y -> y.point(0, 2), y -> y.point(2, 2));
        c.refused(NONE, OrderAlgebra::new, y -> y.point(0, 0));
        Checks.Maker onOther = () -> {
            OrderAlgebra y = Texts.of("chain 3");
            y.keep(1);
            return y;
        };
        c.refused(NONE, onOther, y -> y.point(0, 0), y -> y.point(2, 2));
        c.refused(NONE, () -> to("chain 1", "free 4"), y -> y.point(0, 1), y -> y.point(3, 3));
    }

    /** Five acts, and room for more. */
    private static OrderAlgebra some() {
        OrderAlgebra x = Texts.of("chain 2");
        x.keep(0);
        x.keep(1);
        Texts.tell(x, "free 3;0<1");
        x.make(0, 2);
        x.data(2, 7);
        x.point(1, 1);
        return x;
    }

    private void undoEach() {
        c.term("ACTS: told, related, formed, a FUNCTION made, put, reckoned, DATA, a point of THE MAP.");
        Checks.Call[] acts = {x -> Texts.tell(x, "cube 2"), x -> x.relate(1, 2), x -> x.form(0, 0, 0),
            x -> x.form(1, 0, 1), x -> x.form(2, 5, 0), x -> x.form(3, 0, 0), x -> x.form(4, 1, 0),
            x -> x.form(5, 0, 0), x -> x.make(0, 0), x -> x.make(0, 2), x -> x.put(3, 0, 1, 4),
            x -> x.reckon(0, 0, 0, 0), x -> x.reckon(1, 0, 0, 1), x -> x.reckon(2, 0, 0, 2), x -> x.reckon(3, 0, 0, 3),
            x -> x.invert(0, 0), x -> x.raise(0, 0, 3), x -> x.data(2, -7), x -> x.point(1, 0), x -> x.point(0, 1)};
        for (Checks.Call act : acts) {
            c.promise(14, "The last ACT is UNDONE: how many more can be;");
            OrderAlgebra x = some();
            c.due(5, x.count(8));
            act.on(x);
            c.due(6, x.count(8));
            c.due(5, x.undo());
            c.alike(some(), x);
        }
        OrderAlgebra whole = Texts.of("chain 3");
        whole.form(0, 0, 0);
        c.due(1, whole.undo());
        c.due(7, whole.about(0, 1));
        whole = Texts.of("free 3;2<1");
        whole.relate(0, 2);
        c.due(1, whole.undo());
        c.due(1, whole.about(0, 1));
        c.due(1, whole.count(1));
        whole = Texts.of("chain 16");
        whole.put(3, 15, 15, 8);
        whole.put(3, 0, 0, 9);
        whole.form(0, 0, 0);
        c.due(3, whole.undo());
        c.due(8, whole.value(3, 15, 15));
        c.due(9, whole.value(3, 0, 0));
        Checks.Call[] none = {x -> x.keep(1), x -> x.end(0), x -> x.count(8), x -> x.sets(1, 0), x -> x.undo()};
        int[] left = {5, 5, 5, 5, 4};
        for (int i = 0; i < none.length; i++) {
            OrderAlgebra x = some();
            none[i].on(x);
            c.due(left[i], x.count(8));
        }
    }

    private void undoEight() {
        c.term("The last 8 can be UNDONE, the last first.");
        for (int acts = 0; acts <= 20; acts++) {
            OrderAlgebra x = new OrderAlgebra();
            for (int i = 1; i <= acts; i++) {
                x.data(0, i);
            }
            int can = Math.min(acts, 8);
            c.due(can, x.count(8));
            for (int i = 1; i <= can; i++) {
                c.due(can - i, x.undo());
                c.due(acts - i, x.summed(0, 0));
            }
            c.promise(14, "NONE, and nothing happens, if none can.");
            c.due(NONE, x.undo());
            c.due(NONE, x.undo());
            c.due(acts - can, x.summed(0, 0));
            c.due(0, x.count(8));
            c.due(1, x.put(0, 0, 0, 1));
            c.due(0, x.undo());
        }
        c.refused(NONE, OrderAlgebra::new, x -> x.undo());
        Checks.Maker emptied = () -> {
            OrderAlgebra x = some();
            for (int i = 0; i < 5; i++) {
                x.undo();
            }
            return x;
        };
        c.refused(NONE, emptied, x -> x.undo());
    }

    /** What was undone does not come back, and new acts take its place. */
    private void undoAgain() {
        c.promise(14, "The last ACT is UNDONE: how many more can be;");
        OrderAlgebra x = new OrderAlgebra();
        for (int i = 1; i <= 11; i++) {
            x.data(0, i);
        }
        for (int i = 0; i < 5; i++) {
            x.undo();
        }
        c.due(6, x.summed(0, 0));
        c.due(3, x.count(8));
        for (int i = 21; i <= 27; i++) {
            x.data(0, i);
        }
        c.due(8, x.count(8));
        long[] back = {26, 25, 24, 23, 22, 21, 6, 5};
        for (int i = 0; i < 8; i++) {
            c.due(7 - i, x.undo());
            c.due(back[i], x.summed(0, 0));
        }
        c.due(NONE, x.undo());
    }

    private void undoAndShelves() {
        c.promise(14, "(SHELVES stay; THE MAP is gone, if an ORDER was KEPT on SHELF 0 since then.)");
        OrderAlgebra x = some();
        x.keep(1);
        c.due(4, x.undo());
        c.due(3, x.count(10));
        x.form(2, 1, 0);
        c.due(3, x.form(5, 1, 0));
        x = new OrderAlgebra();
        Texts.tell(x, "chain 5");
        x.keep(1);
        c.due(0, x.undo());
        c.due(1, x.count(0));
        c.due(2, x.count(10));
        c.due(5, x.form(5, 1, 0));
        c.due(10, x.count(1));
    }

    /** The map before an act comes back with it, unless something was kept on shelf 0 behind that act. */
    private void mapGone() {
        OrderAlgebra x = some();
        x.data(0, 1);
        x.keep(1);
        c.due(5, x.undo());
        c.due(1, x.about(1, 5));
        x.form(0, 0, 0);
        c.due(-2, x.about(1, 5));
        c.due(5, x.undo());
        c.due(1, x.about(1, 5));
        c.term("and as soon as an ORDER is KEPT there).");
        x.keep(0);
        c.due(-2, x.about(1, 5));
        c.promise(14, "(SHELVES stay; THE MAP is gone, if an ORDER was KEPT on SHELF 0 since then.)");
        x = some();
        x.data(0, 1);
        x.keep(0);
        x.point(0, 2);
        c.due(6, x.undo());
        c.due(-2, x.about(0, 5));
        c.due(5, x.undo());
        c.due(-2, x.about(1, 5));
        c.due(4, x.undo());
        c.due(-2, x.about(1, 5));
        x = some();
        x.keep(0);
        x.point(0, 0);
        x.data(0, 1);
        c.due(6, x.undo());
        c.due(0, x.about(0, 5));
        x = some();
        x.form(0, 0, 0);
        x.keep(0);
        c.due(5, x.undo());
        for (int e = 0; e < 3; e++) {
            c.due(-2, x.about(e, 5));
        }
    }

    /** The map of each element, from 0 on. */
    private static OrderAlgebra map(String there, String here, int... ones) {
        OrderAlgebra x = to(there, here);
        for (int e = 0; e < ones.length; e++) {
            x.point(e, ones[e]);
        }
        return x;
    }

    private void mapped() {
        c.promise(29, "THE MAP what 0: whether WHOLE (1, 0), 1: MONOTONE, 2: JOINED (1, 2: -2, if it is not WHOLE).");
        c.term("WHOLE: each has one.");
        int[] none = {0, -2, -2};
        for (int what = 0; what < 3; what++) {
            c.due(none[what], new OrderAlgebra().mapped(what));
            c.due(none[what], to("chain 2", "chain 3").mapped(what));
            c.due(none[what], map("chain 2", "chain 3", 0, 0).mapped(what));
            c.due(1, map("chain 2", "chain 3", 0, 0, 1).mapped(what));
            c.due(1, map("free 1", "free 1", 0).mapped(what));
        }
        OrderAlgebra x = to("chain 2", "chain 3");
        x.point(1, 0);
        x.point(2, 1);
        c.due(0, x.mapped(0));
        c.due(-2, x.mapped(1));
        x.point(0, 0);
        c.due(1, x.mapped(0));
        x.keep(1);
        c.due(1, x.mapped(0));
        x.keep(0);
        c.due(0, x.mapped(0));
        x = to("chain 2", "free 16");
        for (int e = 0; e < 16; e++) {
            c.due(0, x.mapped(0));
            x.point(e, 1);
        }
        c.due(1, x.mapped(0));
        c.promise(29, "NONE for others.");
        c.outside(NONE, Checks::mapped, 0, 2, (y, n) -> y.mapped(n));
        c.outside(NONE, Checks::rich, 0, 2, (y, n) -> y.mapped(n));
        c.outside(NONE, OrderAlgebra::new, 0, 2, (y, n) -> y.mapped(n));
    }

    private void monotone() {
        c.term("MONOTONE: where a is AT MOST b, that of a is AT MOST that of b.");
        c.due(1, map("chain 2", "chain 2", 0, 0).mapped(1));
        c.due(1, map("chain 2", "chain 2", 1, 1).mapped(1));
        c.due(1, map("chain 2", "chain 2", 0, 1).mapped(1));
        c.due(0, map("chain 2", "chain 2", 1, 0).mapped(1));
        c.due(0, map("free 2", "chain 2", 0, 1).mapped(1));
        c.due(0, map("chain 2", "free 2;1<0", 0, 1).mapped(1));
        c.due(1, map("chain 2", "free 2;1<0", 1, 0).mapped(1));
        c.due(1, map("free 2", "free 2", 1, 0).mapped(1));
        c.due(0, map("chain 2", "free 16;0<15", 1, 0, 0, 0, 0, 0, 0, 0, 0, 0, 0, 0, 0, 0, 0, 0).mapped(1));
        c.term("JOINED: WHOLE, and each y there has an ADJOINT.");
        c.due(1, map("chain 2", "chain 2", 0, 0).mapped(2));
        c.due(0, map("chain 2", "chain 2", 1, 1).mapped(2));
        c.due(0, map("chain 3", "chain 2", 1, 2).mapped(2));
        c.due(0, map("chain 2", "free 2", 0, 1).mapped(2));
        c.due(0, map("free 2", "free 1", 0).mapped(2));
        c.due(1, map("free 2", "free 2", 1, 0).mapped(2));
        // the greatest is mapped lower than another one: not monotone, yet each has an adjoint
        c.due(0, map("chain 2", "chain 2", 1, 0).mapped(1));
        c.due(1, map("chain 2", "chain 2", 1, 0).mapped(2));
    }

    private void adjoints() {
        c.promise(30, "ADJOINT of an ELEMENT there;");
        c.term("ADJOINT of y there: of all x whose one is AT MOST y the one that all others of these are AT MOST;");
        OrderAlgebra x = to("chain 16", "chain 16");
        for (int e = 0; e < 16; e++) {
            x.point(e, e / 2 * 2);
        }
        for (int y = 0; y < 16; y++) {
            c.due(y / 2 * 2 + 1, x.adjoint(y));
        }
        c.due(0, map("free 1", "free 1", 0).adjoint(0));
        c.promise(30, "-2: there is none;");
        c.refused(-2, () -> map("chain 2", "chain 2", 1, 1), y -> y.adjoint(0));
        c.refused(-2, () -> map("chain 2", "free 2", 0, 1), y -> y.adjoint(1));
        c.refused(-2, Checks::mapped, y -> y.adjoint(1));
        c.due(0, Checks.mapped().adjoint(0));
        c.due(1, map("chain 2", "chain 2", 1, 1).adjoint(1));
        c.due(0, map("chain 2", "free 2", 0, 1).adjoint(0));
    }

    private void adjointRefused() {
        c.promise(30, "NONE without that ELEMENT, or if THE MAP is not WHOLE.");
        c.outside(NONE, Checks::mapped, 0, 1, (x, y) -> x.adjoint(y));
        c.refused(NONE, Checks::mapped, x -> x.adjoint(2));
        c.refused(NONE, Checks::rich, x -> x.adjoint(0), x -> x.adjoint(1), x -> x.adjoint(2), x -> x.adjoint(-1));
        c.refused(NONE, OrderAlgebra::new, x -> x.adjoint(0));
        c.refused(NONE, () -> map("chain 2", "chain 3", 0, 1), x -> x.adjoint(0), x -> x.adjoint(1));
        c.refused(NONE, () -> to("chain 2", "free 1"), x -> x.adjoint(0));
        OrderAlgebra x = map("chain 2", "chain 2", 0, 1);
        c.due(1, x.adjoint(1));
        x.undo();
        c.due(NONE, x.adjoint(1));
    }

    private void sides() {
        c.promise(31, "SIDES of p here, q there, what 0, 1;");
        c.term("SIDES of p here, q there: 0: MOEBIUS [p, x] of all x whose one is q, p AT MOST x, together; 1:"
                + " MOEBIUS there [y, q] of all y there whose ADJOINT is p, y AT MOST q, together.");
        OrderAlgebra x = to("chain 16", "chain 16");
        for (int e = 0; e < 16; e++) {
            x.point(e, e);
        }
        int[][] asked = {{0, 0, 1}, {15, 15, 1}, {0, 1, -1}, {14, 15, -1}, {0, 15, 0}, {15, 0, 0}, {1, 0, 0}};
        for (int[] pq : asked) {
            c.due(pq[2], x.side(pq[0], pq[1], 0));
            c.due(pq[2], x.side(pq[0], pq[1], 1));
        }
        x = map("chain 2", "cube 2", 0, 0, 1, 1);
        long[][] due = {{0, 0}, {1, -1}, {0, 0}, {0, 1}};
        for (int p = 0; p < 4; p++) {
            for (int q = 0; q < 2; q++) {
                c.due(due[p][q], x.side(p, q, 0));
                c.due(due[p][q], x.side(p, q, 1));
            }
        }
        c.due(1, map("free 1", "free 1", 0).side(0, 0, 0));
        c.due(1, map("free 1", "free 1", 0).side(0, 0, 1));
        c.due(-2, Checks.mapped().side(0, 1, 0));
        c.due(1, Checks.mapped().side(1, 1, 0));
    }

    private void sidesRefused() {
        c.promise(31, "Long.MIN_VALUE without these, if THE MAP is not WHOLE, or (1) not JOINED.");
        Checks.Maker joined = () -> map("chain 2", "chain 3", 0, 0, 1);
        for (int what = 0; what < 2; what++) {
            int which = what;
            c.outside(NO, joined, 0, 2, (x, p) -> x.side(p, 0, which));
            c.outside(NO, joined, 0, 1, (x, q) -> x.side(0, q, which));
            c.refused(NO, joined, x -> x.side(2, 2, which));
            c.refused(NO, Checks::rich, x -> x.side(0, 0, which), x -> x.side(0, 1, which), x -> x.side(3, 1, which));
            c.refused(NO, OrderAlgebra::new, x -> x.side(0, 0, which));
            c.refused(NO, () -> map("chain 2", "chain 3", 0, 0), x -> x.side(0, 0, which));
        }
        c.outside(NO, joined, 0, 1, (x, what) -> x.side(0, 0, what));
        c.due(0, joined.made().side(0, 0, 0));
        c.due(1, joined.made().side(2, 1, 1));
        c.refused(NO, Checks::mapped, x -> x.side(0, 0, 1), x -> x.side(0, 1, 1), x -> x.side(2, 1, 1));
        c.due(1, Checks.mapped().side(0, 0, 0));
        c.due(-2, Checks.mapped().side(0, 1, 0));
        c.due(1, Checks.mapped().side(2, 1, 0));
    }
}
