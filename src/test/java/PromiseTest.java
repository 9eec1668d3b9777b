/** Each promise of the document by its number: ordinary calls, the edges that it names, and wrong inputs. */
public final class PromiseTest {
    private static final int NONE = OrderAlgebra.NONE;
    private static final long NO = Long.MIN_VALUE;
    private static int promise;
    private static int line;
    private static int wrong;

    private static void begin(int number) {
        promise = number;
        line = 0;
    }

    private static void due(long want, long got) {
        line++;
        if (got != want) {
            wrong++;
            System.out.println("promise " + promise + ", check " + line + ": answered " + got + ", due is " + want);
        }
    }

    private static int tell(OrderAlgebra x, String text) {
        Texts.write(x, text);
        return x.tell();
    }

    private static OrderAlgebra of(String text) {
        OrderAlgebra x = new OrderAlgebra();
        tell(x, text);
        return x;
    }

    private static int told(String text) {
        return tell(new OrderAlgebra(), text);
    }

    private static void newObject() {
        begin(1);
        OrderAlgebra x = new OrderAlgebra();
        int[] counts = {1, 0, 0, 0, 1, 1, 1, 1, 0, 0, 0, 1, 1, 15, 1};
        for (int what = 0; what < counts.length; what++) {
            due(counts[what], x.count(what));
        }
        due(-1, NONE);
        due(0, x.value(3, 0, 0));
        due(0, x.summed(0, 0));
        due(-2, x.about(0, 5));
        due(0, x.mapped(0));
        due(NONE, x.undo());
        due(2, x.sets(0, 0));
        due(1, x.coefficient(0));
    }

    private static void feed() {
        begin(2);
        OrderAlgebra x = new OrderAlgebra();
        for (int n = 20; n <= 120; n += 20) {
            due(n, x.feed(0x63756265, 0x20322020, 0x20202020, 0x20202020, 0x20202020));
        }
        due(NONE, x.feed(1, 2, 3, 4, 5));
        due(120, x.count(9));
        due(101, x.end(101));
        due(NONE, x.feed(0, 0, 0, 0, 0));
        due(100, x.end(100));
        due(120, x.feed(0, 0, 0, 0, 0));
        due(20, x.end(20));
        due(4, x.tell());
        due(20, x.feed(0x66726565, 0x20333b30, 0x3c313b31, 0x3c32ffff, 0x80000000));
        due(-2 - (8 * 14 + 1), x.tell());
        due(1, x.count(8));
        due(4, x.count(0));
    }

    private static void end() {
        begin(3);
        OrderAlgebra x = new OrderAlgebra();
        due(0, x.end(0));
        due(NONE, x.end(1));
        due(NONE, x.end(-1));
        Texts.write(x, "chain 12");
        due(NONE, x.end(9));
        due(NONE, x.end(Integer.MIN_VALUE));
        due(8, x.count(9));
        due(8, x.end(8));
        due(7, x.end(7));
        due(7, x.count(9));
        due(1, x.tell());
        due(0, x.count(9));
    }

    private static void tellOrders() {
        begin(4);
        due(3, told("free 3"));
        due(16, told("free 16"));
        due(16, told("chain 16"));
        due(1, told("chain 1"));
        due(1, told("cube 0"));
        due(16, told("cube 4"));
        due(6, told("divisors 12"));
        due(1, told("divisors 1"));
        due(8, told("divisors 999"));
        due(16, told("divisors 120"));
        due(1, told("parts 1"));
        due(5, told("parts 3"));
        due(15, told("parts 4"));
        due(4, told(" cube 2 "));
        due(3, told("free3"));
        due(3, told("free 0003;0<1;0<01"));
        due(4, told("  free   4 ;  0  <  1<2 ;3<2  "));
        String longest = "free 16;0<1<2<3<4<5<6<7<8<9<10<11<12<13<14<15";
        longest = longest + " ".repeat(110 - longest.length()) + ";0<15;1<11";
        due(120, longest.length());
        due(16, told(longest));

        OrderAlgebra x = of("chain 3");
        due(2 | 4, x.about(1, 1));
        due(5, tell(x, "parts 3"));
        due(31, x.about(4, 1));
        due(31, x.about(0, 0));
        due(14, x.about(4, 2));
        due(1, x.about(2, 2));
        due(6, tell(x, "divisors 12"));
        due(58, x.about(1, 1));
        due(24, x.about(5, 3));
        due(15, tell(x, "parts 4"));
        due(0x7fff, x.about(14, 1));
        due(0x7fff, x.about(0, 0));
        due(1 << 1 | 1 << 2 | 1 << 3 | 1 << 5 | 1 << 6 | 1 << 8 | 1 << 9, x.about(0, 3));
        due(8, tell(x, "cube 3"));
        due(1 | 2 | 4 | 8, x.about(3, 0));
        due(4, tell(x, "free 4;0<1<2;2<3"));
        due(15, x.about(0, 1));
        due(0, x.count(9));
    }

    private static void tellFaults() {
        due(-3, told(""));
        due(-2 - (8 * 3 + 1), told("   "));
        due(-2 - (8 * 4 + 1), told("free"));
        due(-2 - (8 * 6 + 1), told("free  "));
        due(-2 - (8 * 5 + 2), told("free 0"));
        due(-2 - (8 * 5 + 2), told("free 17"));
        due(-2 - (8 * 5 + 2), told("free 99999999999999999999"));
        due(-2 - (8 * 5 + 2), told("free 4294967297"));
        due(-2 - (8 * 6 + 2), told("chain 0"));
        due(-2 - (8 * 5 + 2), told("cube 5"));
        due(-2 - (8 * 9 + 2), told("divisors 720"));
        due(-2 - (8 * 9 + 2), told("divisors 180"));
        due(-2 - (8 * 9 + 2), told("divisors 1000"));
        due(-2 - (8 * 9 + 2), told("divisors 0"));
        due(-2 - (8 * 6 + 2), told("parts 5"));
        due(-2 - (8 * 6 + 2), told("parts 0"));
        due(-2 - 1, told("list 3"));
        due(-2 - 1, told("freex 3"));
        due(-2 - 1, told("fre 3"));
        due(-2 - 1, told("Free 3"));
        due(-2 - 1, told("3 free"));
        due(-2 - (8 * 2 + 1), told("  fr ee 3"));
        due(-2 - (8 * 5 + 1), told("free x"));
        due(-2 - (8 * 4 + 1), told("free;3"));
        due(-2 - (8 * 5 + 1), told("free -3"));
        due(-2 - (8 * 6 + 1), told("free 3x"));
        due(-2 - (8 * 7 + 1), told("free 3 0"));
        due(-2 - (8 * 7 + 1), told("free 3;"));
        due(-2 - (8 * 7 + 1), told("free 3;;0<1"));
        due(-2 - (8 * 8 + 1), told("free 3;0"));
        due(-2 - (8 * 8 + 1), told("free 3;0>1"));
        due(-2 - (8 * 8 + 1), told("free 3;0;1"));
        due(-2 - (8 * 9 + 1), told("free 3;0<"));
        due(-2 - (8 * 9 + 1), told("free 3;0<<1"));
        due(-2 - (8 * 10 + 1), told("free 3;0<1x"));
        due(-2 - (8 * 11 + 1), told("free 3;0<1 2"));
        due(-2 - (8 * 7 + 2), told("free 3;3<0"));
        due(-2 - (8 * 9 + 2), told("free 3;0<3"));
        due(-2 - (8 * 9 + 2), told("free 3;0<99999999999"));
        due(-2 - (8 * 9 + 3), told("free 3;0<0"));
        due(-2 - (8 * 11 + 3), told("free 3;0<1<0"));
        due(-2 - (8 * 10 + 3), told("chain 3;2<0"));
        due(-2 - (8 * 17 + 3), told("free 3;0<1;1<2;2<0"));
        OrderAlgebra x = of("chain 4");
        x.make(0, 2);
        due(-3, tell(x, "no"));
        due(4, x.count(0));
        due(0, x.count(9));
        due(2, x.count(8));
        due(1, x.value(0, 0, 3));
        due(4, tell(x, "chain 4"));
        due(0, x.value(0, 0, 3));
        due(3, x.count(8));
    }

    private static void relate() {
        begin(5);
        OrderAlgebra x = of("free 4");
        due(1, x.relate(0, 1));
        due(2, x.relate(2, 3));
        due(3, x.relate(1, 2));
        due(6, x.count(1));
        due(-2, x.relate(0, 3));
        due(-3, x.relate(3, 0));
        due(-3, x.relate(2, 2));
        due(NONE, x.relate(0, 4));
        due(NONE, x.relate(-1, 0));
        due(4, x.count(8));
        x = of("free 3");
        x.make(1, 1);
        x.data(2, 5);
        due(1, x.relate(0, 1));
        due(0, x.value(1, 0, 0));
        due(0, x.summed(2, 0));
        due(3, x.undo());
        due(1, x.value(1, 0, 0));
        due(5, x.summed(2, 0));
        due(0, x.count(1));
        x = of("free 4;0<1;2<3;0<3");
        due(3, x.relate(1, 3));
    }

    private static void formAlone() {
        begin(6);
        OrderAlgebra x = of("divisors 12");
        due(6, x.form(0, 77, -4));
        due(63, x.about(0, 0));
        due(63, x.about(5, 1));
        due(8 | 16, x.about(5, 2));
        due(4, x.form(1, 5, 1));
        due(4, x.count(0));
        due(15, x.about(3, 1));
        due(2, x.form(2, 0b1001, -9));
        due(3, x.about(0, 0));
        due(NONE, x.form(2, 0, 0));
        due(NONE, x.form(2, 4, 0));
        due(NONE, x.form(2, 5, 0));
        due(NONE, x.form(2, -1, 0));
        due(NONE, x.form(1, 0, 1));
        due(NONE, x.form(1, 1, 2));
        due(NONE, x.form(6, 0, 0));
        due(NONE, x.form(-1, 0, 0));
        due(2, x.count(0));
        due(4, x.count(8));
        x = of("cube 3");
        due(4, x.form(1, 1, 7));
        due(5, x.about(2, 0));
        due(1, x.count(5));
        x.make(0, 2);
        due(1, x.form(1, 2, 2));
        due(0, x.value(0, 0, 0));
    }

    private static void formWithKept() {
        OrderAlgebra x = of("chain 3");
        due(NONE, x.form(3, 0, 0));
        due(NONE, x.form(5, 2, 0));
        due(NONE, x.form(4, -1, 0));
        x.keep(1);
        due(NONE, x.form(3, 0, 0));
        tell(x, "free 2");
        due(5, x.form(3, 1, 9));
        due(4 | 8 | 16, x.about(2, 1));
        due(1, x.about(0, 1));
        due(3, x.count(1));
        x.undo();
        due(5, x.form(4, 1, 0));
        due(1 | 4 | 8 | 16, x.about(0, 1));
        due(31, x.about(4, 0));
        due(9, x.count(1));
        x.undo();
        due(6, x.form(5, 1, 0));
        due(1 | 2 | 4, x.about(0, 1));
        due(8 | 16, x.about(4, 0));
        due(-2, x.form(5, 1, 0));
        due(9, x.form(3, 1, 0));
        due(12, x.form(4, 1, 0));
        due(15, x.form(4, 1, 0));
        due(-2, x.form(3, 1, 0));
        due(-2, x.form(4, 1, 0));
        due(15, x.count(0));
        x = of("chain 4");
        x.keep(0);
        due(16, x.form(5, 0, 0));
        due(1 | 2 | 16 | 32, x.about(5, 0));
        due(6, x.count(3));
        x = of("chain 2");
        x.keep(0);
        tell(x, "chain 3");
        due(6, x.form(5, 0, 0));
        due(1 | 2 | 4 | 8, x.about(3, 0));
        due(1 | 4, x.about(2, 0));
    }

    private static void make() {
        begin(7);
        OrderAlgebra x = of("cube 2");
        long[][] due = {{0, 0, 0}, {1, 0, 0}, {1, 1, 1}, {1, -1, 1}, {0, 1, 1}, {0, 1, 0}, {1, 2, 4}};
        for (int kind = 0; kind < 7; kind++) {
            due(kind, x.make(2, kind));
            due(due[kind][0], x.value(2, 1, 1));
            due(due[kind][1], x.value(2, 0, 2));
            due(due[kind][2], x.value(2, 0, 3));
        }
        due(0, x.value(1, 1, 1));
        due(8, x.count(8));
        due(NONE, x.make(2, 7));
        due(NONE, x.make(2, -1));
        due(NONE, x.make(4, 1));
        due(NONE, x.make(-1, 1));
        due(4, x.value(2, 0, 3));
        due(6, x.make(2, 6));
        due(7, x.undo());
        due(4, x.value(2, 0, 3));
    }

    private static void put() {
        begin(8);
        OrderAlgebra x = of("free 3;0<1");
        due(1, x.put(3, 0, 1, -7));
        due(-7, x.value(3, 0, 1));
        due(-2, x.put(3, 0, 1, -7));
        due(-2, x.put(3, 2, 2, 0));
        due(2, x.count(8));
        due(1, x.put(3, 2, 2, Integer.MIN_VALUE));
        due(Integer.MIN_VALUE, x.value(3, 2, 2));
        due(NONE, x.put(3, 1, 0, 4));
        due(NONE, x.put(3, 0, 2, 4));
        due(NONE, x.put(4, 0, 1, 4));
        due(NONE, x.put(-1, 0, 1, 4));
        due(NONE, x.put(0, 3, 3, 4));
        due(NONE, x.put(0, -1, 0, 4));
        due(3, x.count(8));
        due(0, x.value(2, 0, 1));
    }

    private static void reckon() {
        begin(9);
        OrderAlgebra x = of("chain 3");
        x.make(0, 6);
        x.make(1, 2);
        due(1, x.reckon(2, 0, 1, 0));
        due(4, x.value(2, 0, 2));
        due(1, x.reckon(2, 0, 1, 1));
        due(2, x.value(2, 0, 2));
        due(0, x.value(2, 1, 1));
        due(1, x.reckon(2, 0, 1, 2));
        due(6, x.value(2, 0, 2));
        due(3, x.value(2, 0, 1));
        due(1, x.reckon(2, 0, 0, 3));
        due(9, x.value(2, 0, 2));
        due(1, x.reckon(1, 1, 1, 2));
        due(3, x.value(1, 0, 2));
        due(8, x.count(8));
        x.undo();
        due(NONE, x.reckon(4, 0, 0, 0));
        due(NONE, x.reckon(0, -1, 0, 0));
        due(NONE, x.reckon(0, 0, 4, 0));
        due(NONE, x.reckon(0, 0, 0, 4));
        due(NONE, x.reckon(0, 0, 0, -1));
        due(7, x.count(8));
        due(1, x.value(1, 0, 2));
        tell(x, "divisors 2");
        due(1, x.reckon(2, 0, 1, 2));
        due(1, x.same(2, 3));
        due(1, x.reckon(2, 0, 1, 0));
        due(1, x.same(2, 3));
        x.make(0, 3);
        x.put(1, 0, 1, 5);
        x.put(1, 0, 0, 2);
        x.put(1, 1, 1, 3);
        due(1, x.reckon(2, 1, 0, 2));
        due(3, x.value(2, 0, 1));
        due(1, x.reckon(2, 0, 1, 2));
        due(2, x.value(2, 0, 1));
    }

    /** The value of [0, 0] of a function becomes 2 to the 62. */
    private static void makeHuge(OrderAlgebra x, int function) {
        x.put(function, 0, 0, 1 << 30);
        x.reckon(function, function, function, 3);
        x.put(3, 0, 0, 4);
        x.reckon(function, function, 3, 3);
    }

    private static void reckonOverflows() {
        OrderAlgebra x = new OrderAlgebra();
        makeHuge(x, 0);
        due(1L << 62, x.value(0, 0, 0));
        int acts = x.count(8);
        due(-3, x.reckon(1, 0, 0, 0));
        due(-3, x.reckon(1, 0, 3, 3));
        due(-3, x.reckon(1, 0, 3, 2));
        due(acts, x.count(8));
        due(0, x.value(1, 0, 0));
        due(1, x.reckon(1, 1, 0, 1));
        due(-(1L << 62), x.value(1, 0, 0));
        due(-3, x.reckon(2, 0, 1, 1));
        due(1, x.reckon(2, 1, 1, 0));
        due(Long.MIN_VALUE, x.value(2, 0, 0));
        x.put(3, 0, 0, -1);
        due(-3, x.reckon(1, 2, 3, 3));
        due(-3, x.reckon(1, 3, 2, 3));
        due(-3, x.reckon(1, 3, 2, 2));
        due(1, x.reckon(1, 3, 2, 1));
        due(Long.MAX_VALUE, x.value(1, 0, 0));
        due(-3, x.reckon(1, 1, 2, 1));
        due(1, x.reckon(1, 1, 2, 0));
        due(-1, x.value(1, 0, 0));
        x = of("chain 2");
        makeHuge(x, 0);
        x.put(1, 0, 1, 2);
        due(-3, x.reckon(2, 0, 1, 2));
        x.put(1, 0, 1, 1);
        due(1, x.reckon(2, 0, 1, 2));
        due(1L << 62, x.value(2, 0, 1));
    }

    private static void invert() {
        begin(10);
        OrderAlgebra x = of("parts 4");
        x.make(0, 2);
        x.make(1, 3);
        due(1, x.invert(2, 0));
        due(1, x.same(1, 2));
        due(-6, x.value(2, 14, 0));
        due(1, x.invert(2, 2));
        due(1, x.same(0, 2));
        due(-2, x.invert(2, 3));
        x.put(0, 5, 5, 2);
        due(-2, x.invert(2, 0));
        due(6, x.count(8));
        due(NONE, x.invert(4, 0));
        due(NONE, x.invert(0, 4));
        due(NONE, x.invert(-1, 0));
        due(NONE, x.invert(0, -1));
        x = of("chain 3");
        x.put(0, 0, 0, -1);
        x.put(0, 1, 1, 1);
        x.put(0, 2, 2, -1);
        x.put(0, 0, 1, 5);
        x.put(0, 1, 2, 7);
        x.put(0, 0, 2, 11);
        due(1, x.invert(1, 0));
        due(-1, x.value(1, 0, 0));
        due(1, x.value(1, 1, 1));
        due(5, x.value(1, 0, 1));
        due(7, x.value(1, 1, 2));
        due(24, x.value(1, 0, 2));
        tell(x, "chain 2");
        x.make(0, 2);
        due(1, x.invert(1, 0));
        x.make(0, 3);
        due(1, x.same(0, 1));
        tell(x, "free 2");
        x.put(0, 0, 0, 1);
        x.put(0, 1, 1, 1);
        due(1, x.invert(1, 0));
        due(1, x.same(0, 1));
        x = of("chain 4");
        x.make(0, 2);
        x.put(0, 0, 1, Integer.MAX_VALUE);
        x.put(0, 1, 2, Integer.MAX_VALUE);
        x.put(0, 2, 3, Integer.MAX_VALUE);
        int acts = x.count(8);
        due(-3, x.invert(1, 0));
        due(acts, x.count(8));
        due(0, x.value(1, 0, 0));
        x.make(0, 2);
        due(1, x.invert(1, 0));
    }

    private static void raise() {
        begin(11);
        OrderAlgebra x = of("chain 4");
        x.make(0, 4);
        x.make(1, 1);
        due(1, x.raise(2, 0, 0));
        due(1, x.same(2, 1));
        due(1, x.raise(2, 0, 1));
        due(1, x.same(2, 0));
        due(1, x.raise(2, 0, 2));
        due(2, x.value(2, 0, 3));
        due(1, x.raise(2, 0, 4));
        due(0, x.value(2, 0, 3));
        x.make(0, 2);
        due(1, x.raise(0, 0, 20));
        due(1540, x.value(0, 0, 3));
        due(NONE, x.raise(0, 0, 21));
        due(NONE, x.raise(0, 0, -1));
        due(NONE, x.raise(4, 0, 1));
        due(NONE, x.raise(0, 4, 1));
        due(1540, x.value(0, 0, 3));
        x = new OrderAlgebra();
        x.put(0, 0, 0, 8);
        due(1, x.raise(1, 0, 20));
        due(1L << 60, x.value(1, 0, 0));
        x.put(0, 0, 0, 9);
        due(-3, x.raise(1, 0, 20));
        due(1L << 60, x.value(1, 0, 0));
        due(3, x.count(8));
        x.put(0, 0, 0, -8);
        due(1, x.raise(0, 0, 19));
        due(-3, x.raise(1, 0, 2));
        due(1, x.raise(1, 0, 1));
        due(-(1L << 57), x.value(0, 0, 0));
    }

    private static void data() {
        begin(12);
        OrderAlgebra x = of("chain 2");
        due(1, x.data(1, Long.MAX_VALUE));
        due(Long.MAX_VALUE, x.summed(1, 1));
        due(-2, x.data(1, Long.MAX_VALUE));
        due(-2, x.data(0, 0));
        due(NONE, x.data(2, 1));
        due(NONE, x.data(-1, 1));
        due(2, x.count(8));
        due(1, x.data(1, 1));
        due(1, x.summed(1, 0));
        due(2, x.undo());
        due(Long.MAX_VALUE, x.summed(1, 0));
        x.form(0, 0, 0);
        due(0, x.summed(0, 0));
    }

    private static void point() {
        begin(13);
        OrderAlgebra x = of("free 3");
        due(NONE, x.point(0, 0));
        x.keep(1);
        due(NONE, x.point(0, 0));
        tell(x, "chain 2");
        x.keep(0);
        tell(x, "free 3");
        due(1, x.point(0, 1));
        due(1, x.about(0, 5));
        due(-2, x.point(0, 1));
        due(-2, x.about(2, 5));
        due(NONE, x.point(0, 2));
        due(NONE, x.point(0, -1));
        due(NONE, x.point(3, 0));
        due(NONE, x.point(-1, 0));
        due(4, x.count(8));
        due(1, x.point(0, 0));
        due(4, x.undo());
        due(1, x.about(0, 5));
        x.keep(1);
        due(1, x.about(0, 5));
        x.keep(0);
        due(-2, x.about(0, 5));
        due(1, x.point(0, 2));
        x.relate(0, 1);
        due(-2, x.about(0, 5));
    }

    private static void undo() {
        begin(14);
        OrderAlgebra x = of("chain 3");
        x.make(0, 2);
        x.put(0, 0, 0, 9);
        x.reckon(1, 0, 0, 0);
        x.data(1, 4);
        x.keep(0);
        x.point(2, 2);
        x.form(2, 5, 0);
        due(6, x.undo());
        due(3, x.count(0));
        due(2, x.about(2, 5));
        due(4, x.summed(1, 0));
        due(18, x.value(1, 0, 0));
        due(5, x.undo());
        due(-2, x.about(2, 5));
        due(4, x.undo());
        due(0, x.summed(1, 0));
        due(3, x.undo());
        due(0, x.value(1, 0, 0));
        due(9, x.value(0, 0, 0));
        due(2, x.undo());
        due(1, x.undo());
        due(0, x.value(0, 0, 1));
        due(0, x.undo());
        due(1, x.count(0));
        due(NONE, x.undo());
        due(1, x.count(10));
        x = of("chain 2");
        for (int i = 1; i <= 9; i++) {
            x.put(0, 0, 1, i);
        }
        due(8, x.count(8));
        for (int i = 7; i >= 0; i--) {
            due(i, x.undo());
        }
        due(NONE, x.undo());
        due(1, x.value(0, 0, 1));
        due(2, x.count(0));
    }

    private static void undoAndShelves() {
        OrderAlgebra x = of("chain 2");
        x.keep(0);
        x.point(0, 1);
        x.point(1, 1);
        x.make(0, 1);
        x.keep(1);
        due(3, x.undo());
        due(1, x.about(1, 5));
        x.keep(0);
        due(2, x.undo());
        due(-2, x.about(0, 5));
        due(1, x.undo());
        due(-2, x.about(0, 5));
        due(3, x.count(10));
        x.point(0, 0);
        x.data(0, 3);
        x.form(0, 0, 0);
        due(3, x.undo());
        due(0, x.about(0, 5));
        x.invert(2, 2);
        x.raise(2, 2, 0);
        due(4, x.count(8));
        due(3, x.undo());
        due(0, x.value(2, 0, 0));
        x.make(3, 2);
        x.invert(3, 3);
        due(-1, x.value(3, 0, 1));
        due(4, x.undo());
        due(1, x.value(3, 0, 1));
    }

    private static void keep() {
        begin(15);
        OrderAlgebra x = of("chain 3");
        due(NONE, x.keep(2));
        due(NONE, x.keep(-1));
        due(0, x.count(10));
        due(3, x.keep(1));
        due(2, x.count(10));
        tell(x, "free 2");
        due(2, x.keep(0));
        due(3, x.count(10));
        x.relate(0, 1);
        due(4, x.form(3, 0, 0));
        due(1, x.count(1));
        due(7, x.form(4, 1, 0));
        due(1 + 3 + 12, x.count(1));
        due(5, x.count(8));
        due(7, x.keep(0));
    }

    private static void value() {
        begin(16);
        OrderAlgebra x = of("free 2;1<0");
        x.make(3, 6);
        due(2, x.value(3, 1, 0));
        due(NO, x.value(3, 0, 1));
        due(NO, x.value(4, 0, 0));
        due(NO, x.value(-1, 0, 0));
        due(NO, x.value(0, 2, 2));
        due(NO, x.value(0, -1, 0));
        due(0, x.value(0, 1, 0));
    }

    private static void same() {
        begin(17);
        OrderAlgebra x = of("chain 2");
        due(1, x.same(0, 3));
        x.make(0, 3);
        due(0, x.same(0, 3));
        due(1, x.same(0, 0));
        x.make(3, 2);
        x.put(3, 0, 1, -1);
        due(1, x.same(0, 3));
        due(NONE, x.same(0, 4));
        due(NONE, x.same(-1, 0));
    }

    private static void about() {
        begin(18);
        OrderAlgebra x = of("free 6;0<1<2<5;0<3<5;4<5");
        due(1 | 2 | 4, x.about(2, 0));
        due(4 | 32, x.about(2, 1));
        due(2 | 8, x.about(0, 2));
        due(4 | 8 | 16, x.about(5, 3));
        due(3, x.about(5, 4));
        due(0, x.about(4, 4));
        due(2, x.about(2, 4));
        due(-2, x.about(2, 5));
        x.keep(0);
        x.point(2, 4);
        due(4, x.about(2, 5));
        due(NONE, x.about(2, 6));
        due(NONE, x.about(2, -1));
        due(NONE, x.about(6, 0));
        due(NONE, x.about(-1, 0));
        x = of("chain 16");
        due(0xffff, x.about(0, 1));
        due(15, x.about(15, 4));
    }

    private static void bound() {
        begin(19);
        OrderAlgebra x = of("free 4;0<2;0<3;1<2;1<3");
        due(-2, x.bound(0, 1, 0));
        due(-2, x.bound(2, 3, 1));
        due(2, x.bound(0, 2, 0));
        due(0, x.bound(2, 0, 1));
        due(1, x.bound(1, 1, 0));
        due(-2, x.bound(2, 3, 0));
        due(5, x.bound(0, 2, 2));
        due(0, x.bound(2, 0, 2));
        due(2, x.bound(1, 1, 2));
        due(NONE, x.bound(0, 4, 0));
        due(NONE, x.bound(-1, 0, 1));
        due(NONE, x.bound(0, 1, 3));
        due(NONE, x.bound(0, 1, -1));
        x = of("divisors 12");
        due(5, x.bound(3, 2, 0));
        due(1, x.bound(3, 4, 1));
        due(2 | 8 | 16 | 32, x.bound(1, 5, 2));
    }

    private static void chains() {
        begin(20);
        OrderAlgebra x = of("cube 3");
        due(0, x.chains(0, 7, 0));
        due(1, x.chains(0, 7, 1));
        due(6, x.chains(0, 7, 2));
        due(6, x.chains(0, 7, 3));
        due(0, x.chains(0, 7, 4));
        due(13, x.chains(0, 7, NONE));
        due(6, x.chains(0, 7, -2));
        due(1, x.chains(3, 3, 0));
        due(0, x.chains(3, 3, 1));
        due(1, x.chains(3, 3, NONE));
        due(1, x.chains(3, 3, -2));
        due(0, x.chains(7, 0, NONE));
        due(0, x.chains(1, 2, 0));
        due(0, x.chains(1, 2, -2));
        due(0, x.chains(0, 7, 15));
        due(NONE, x.chains(0, 7, 16));
        due(NONE, x.chains(0, 7, -3));
        due(NONE, x.chains(0, 8, 1));
        due(NONE, x.chains(-1, 0, 1));
        x = of("chain 16");
        due(1, x.chains(0, 15, 15));
        due(1 << 14, x.chains(0, 15, NONE));
        due(1, x.chains(0, 15, -2));
        due(3432, x.chains(0, 15, 8));
    }

    private static void moebius() {
        begin(21);
        OrderAlgebra x = of("parts 4");
        for (int way = 0; way < 4; way++) {
            due(-6, x.moebius(14, 0, way));
            due(1, x.moebius(6, 6, way));
            due(-1, x.moebius(1, 0, way));
            due(NO, x.moebius(0, 14, way));
            due(NO, x.moebius(15, 15, way));
            due(NO, x.moebius(-1, 0, way));
        }
        due(NO, x.moebius(14, 0, 4));
        due(NO, x.moebius(14, 0, -1));
        x = of("free 6;0<1<3<5;0<2<4<5;1<4;2<3");
        for (int way = 0; way < 3; way++) {
            due(-1, x.moebius(0, 5, way));
            due(1, x.moebius(0, 3, way));
        }
        due(NO, x.moebius(0, 5, 3));
        due(1, x.moebius(0, 3, 3));
        x = of("free 6;0<1<5;0<2<5;0<3<5;0<4<5");
        due(3, x.moebius(0, 5, 3));
        x = of("free 5;0<1<2;0<3;1<4;3<4");
        due(0, x.moebius(0, 2, 3));
        due(1, x.moebius(0, 4, 3));
        due(-1, x.moebius(0, 1, 3));
    }

    private static void multichains() {
        begin(22);
        OrderAlgebra x = of("cube 4");
        due(0, x.multichains(0, 15, 0));
        due(1, x.multichains(2, 2, 0));
        due(1, x.multichains(0, 15, 1));
        due(16, x.multichains(0, 15, 2));
        due(810000, x.multichains(0, 15, 30));
        due(NONE, x.multichains(0, 15, 31));
        due(NONE, x.multichains(0, 15, -1));
        due(NONE, x.multichains(15, 0, 2));
        due(NONE, x.multichains(0, 16, 2));
        x = of("chain 16");
        due(229911617056L, x.multichains(0, 15, 30));
    }

    private static void sets() {
        begin(23);
        OrderAlgebra x = of("cube 3");
        due(20, x.sets(0, -5));
        due(48, x.sets(1, 99));
        due(1, x.sets(2, 0));
        due(3, x.sets(2, 2));
        due(4, x.sets(2, 4));
        due(1, x.sets(2, 8));
        due(NONE, x.sets(2, 9));
        due(NONE, x.sets(2, 16));
        due(NONE, x.sets(2, 17));
        due(NONE, x.sets(2, -1));
        due(NONE, x.sets(2, Integer.MAX_VALUE));
        due(NONE, x.sets(2, Integer.MIN_VALUE));
        due(NONE, x.sets(3, 0));
        due(NONE, x.sets(-1, 0));
        tell(x, "cube 4");
        due(168, x.sets(0, 0));
        due(1680384, x.sets(1, 0));
        tell(x, "free 16");
        due(65536, x.sets(0, 0));
        due(20922789888000L, x.sets(1, 0));
        due(12870, x.sets(2, 8));
        due(1, x.sets(2, 16));
        due(NONE, x.sets(2, 17));
        tell(x, "chain 16");
        due(17, x.sets(0, 0));
        due(1, x.sets(1, 0));
        tell(x, "free 4;0<1;2<1;2<3");
        due(5, x.sets(1, 0));
        due(8, x.sets(0, 0));
        x.undo();
        due(17, x.sets(0, 0));
        x.form(2, 7, 0);
        due(4, x.sets(0, 0));
        due(1, x.sets(2, 3));
        due(NONE, x.sets(2, 4));
        x = new OrderAlgebra();
        due(1, x.sets(2, 0));
        due(1, x.sets(2, 1));
        due(NONE, x.sets(2, 2));
    }

    private static void type() {
        begin(24);
        OrderAlgebra x = of("cube 2");
        due(0, x.type(0, 0));
        due(1, x.type(0, 1));
        due(1, x.type(0, 2));
        due(2, x.type(0, 3));
        due(0, x.type(3, 3));
        due(1, x.type(2, 3));
        due(NONE, x.type(1, 2));
        due(NONE, x.type(3, 0));
        due(NONE, x.type(4, 4));
        due(NONE, x.type(-1, 0));
        x = of("free 7;1<2<3<4;1<5<6<4;5<3");
        due(0, x.type(0, 0));
        due(0, x.type(1, 1));
        due(1, x.type(1, 2));
        due(2, x.type(1, 3));
        due(3, x.type(1, 4));
        due(1, x.type(1, 5));
        due(4, x.type(1, 6));
        due(4, x.type(2, 4));
        due(2, x.type(5, 4));
        due(5, x.count(6));
        x.form(0, 0, 0);
        due(0, x.type(1, 1));
        due(4, x.type(4, 2));
        due(3, x.type(4, 1));
    }

    /** Four low ones between 0 and two tops, each top with four of its own above pairs of these. */
    private static OrderAlgebra rings(int[][] first, int[][] second) {
        OrderAlgebra x = of("free 15;0<1;0<2;0<3;0<4;5<13;6<13;7<13;8<13;9<14;10<14;11<14;12<14");
        for (int i = 0; i < 4; i++) {
            for (int j = 0; j < 2; j++) {
                x.relate(first[i][j], 5 + i);
                x.relate(second[i][j], 9 + i);
            }
        }
        return x;
    }

    /** Rings of eight and two rings of four differ, though each element has as many above and below it. */
    private static void typeOfRings() {
        int[][] ring = {{1, 2}, {2, 3}, {3, 4}, {4, 1}};
        int[][] otherRing = {{1, 3}, {3, 2}, {2, 4}, {4, 1}};
        int[][] two = {{1, 2}, {1, 2}, {3, 4}, {3, 4}};
        int[][] otherTwo = {{1, 4}, {2, 3}, {3, 2}, {4, 1}};
        int[][][] firsts = {ring, ring, two, two, otherTwo};
        int[][][] seconds = {otherRing, two, otherTwo, otherRing, two};
        int[] due = {3, 4, 3, 4, 3};
        for (int i = 0; i < due.length; i++) {
            OrderAlgebra x = rings(firsts[i], seconds[i]);
            due(3, x.type(0, 13));
            due(due[i], x.type(0, 14));
            due(due[i] + 1, x.count(6));
            due(2, x.type(4, 13));
        }
    }

    private static void split() {
        begin(25);
        OrderAlgebra x = of("cube 3");
        int three = x.type(0, 7);
        due(3, three);
        due(3, x.split(3, 1, 2));
        due(3, x.split(3, 2, 1));
        due(1, x.split(3, 0, 3));
        due(0, x.split(3, 1, 1));
        due(2, x.split(2, 1, 1));
        due(1, x.split(0, 0, 0));
        due(NONE, x.split(4, 0, 0));
        due(NONE, x.split(0, 4, 0));
        due(NONE, x.split(0, 0, 4));
        due(NONE, x.split(-1, 0, 0));
        due(NONE, x.split(0, -1, 0));
        due(NONE, x.split(0, 0, -1));
    }

    private static void reduced() {
        begin(26);
        OrderAlgebra x = of("cube 3");
        x.make(1, 3);
        due(-1, x.reduced(1, 3));
        due(1, x.reduced(1, 2));
        due(NO, x.reduced(1, 4));
        due(NO, x.reduced(1, -1));
        due(NO, x.reduced(4, 0));
        due(NO, x.reduced(-1, 0));
        x.put(1, 7, 7, 2);
        due(NO, x.reduced(1, 3));
        due(NO, x.reduced(1, 0));
        due(0, x.reduced(0, 0));
        x.undo();
        due(1, x.reduced(1, 0));
        x.put(1, 0, 7, 55);
        due(55, x.reduced(1, 3));
    }

    private static void summed() {
        begin(27);
        OrderAlgebra x = of("free 4;2<1;1<0;3<0");
        for (int e = 0; e < 4; e++) {
            x.data(e, 10 + e);
        }
        due(46, x.summed(0, 0));
        due(23, x.summed(1, 0));
        due(33, x.summed(2, 1));
        due(10, x.summed(0, 1));
        due(NO, x.summed(4, 0));
        due(NO, x.summed(-1, 0));
        due(NO, x.summed(0, 2));
        due(NO, x.summed(0, -1));
        x.data(1, Long.MAX_VALUE);
        due(NO, x.summed(0, 0));
        due(NO, x.summed(1, 0));
        x.data(0, -12);
        due(Long.MAX_VALUE, x.summed(2, 1));
        x.data(0, 1);
        x.data(2, -5);
        due(NO, x.summed(2, 1));
        x.form(2, 1, 0);
        due(0, x.summed(0, 0));
    }

    private static void gotBack() {
        begin(28);
        OrderAlgebra x = of("cube 2");
        x.data(0, 1);
        x.data(1, 20);
        x.data(2, 300);
        x.data(3, 4000);
        due(1, x.gotBack(0, 0));
        due(19, x.gotBack(1, 0));
        due(4000 - 300 - 20 + 1, x.gotBack(3, 0));
        due(4000, x.gotBack(3, 1));
        due(300 - 4000, x.gotBack(2, 1));
        due(1 - 20 - 300 + 4000, x.gotBack(0, 1));
        due(NO, x.gotBack(4, 0));
        due(NO, x.gotBack(-1, 0));
        due(NO, x.gotBack(0, 2));
        due(NO, x.gotBack(0, -1));
        x.data(1, Long.MIN_VALUE);
        due(NO, x.gotBack(3, 0));
        due(NO, x.gotBack(0, 1));
        due(4000, x.gotBack(3, 1));
        x.data(1, Long.MIN_VALUE + 1);
        due(NO, x.gotBack(3, 0));
        x.data(0, 0);
        due(NO, x.gotBack(3, 0));
        x.data(3, 7);
        due(Long.MAX_VALUE - 293, x.gotBack(3, 0));
    }

    /** Cube 2 to chain 2: the bottom and 1 to 0, the rest to 1. */
    private static OrderAlgebra cubeToChain() {
        OrderAlgebra x = of("chain 2");
        x.keep(0);
        tell(x, "cube 2");
        x.point(0, 0);
        x.point(1, 0);
        x.point(2, 1);
        x.point(3, 1);
        return x;
    }

    private static void mapped() {
        begin(29);
        OrderAlgebra x = cubeToChain();
        due(1, x.mapped(0));
        due(1, x.mapped(1));
        due(1, x.mapped(2));
        due(NONE, x.mapped(3));
        due(NONE, x.mapped(-1));
        x.point(1, 1);
        due(1, x.mapped(2));
        x.point(3, 0);
        due(0, x.mapped(1));
        due(1, x.mapped(2));
        x.undo();
        x.undo();
        x.undo();
        due(0, x.mapped(0));
        due(-2, x.mapped(1));
        due(-2, x.mapped(2));
        x = of("chain 2");
        x.keep(0);
        tell(x, "free 2");
        x.point(0, 1);
        x.point(1, 1);
        due(1, x.mapped(1));
        due(0, x.mapped(2));
        due(0, new OrderAlgebra().mapped(0));
        due(-2, new OrderAlgebra().mapped(1));
    }

    private static void adjoint() {
        begin(30);
        OrderAlgebra x = cubeToChain();
        due(1, x.adjoint(0));
        due(3, x.adjoint(1));
        due(NONE, x.adjoint(2));
        due(NONE, x.adjoint(-1));
        x.point(0, 1);
        due(1, x.adjoint(0));
        x.point(1, 1);
        due(-2, x.adjoint(0));
        due(3, x.adjoint(1));
        x.keep(0);
        due(NONE, x.adjoint(0));
        due(NONE, new OrderAlgebra().adjoint(0));
        x = of("chain 2");
        x.keep(0);
        tell(x, "free 2");
        x.point(0, 0);
        due(NONE, x.adjoint(0));
        x.point(1, 0);
        due(-2, x.adjoint(1));
    }

    private static void side() {
        begin(31);
        OrderAlgebra x = cubeToChain();
        long[][] due = {{0, 0}, {1, -1}, {0, 0}, {0, 1}};
        for (int p = 0; p < 4; p++) {
            for (int q = 0; q < 2; q++) {
                due(x.side(p, q, 0), x.side(p, q, 1));
                due(due[p][q], x.side(p, q, 1));
            }
        }
        due(NO, x.side(4, 0, 0));
        due(NO, x.side(-1, 0, 0));
        due(NO, x.side(0, 2, 0));
        due(NO, x.side(0, -1, 1));
        due(NO, x.side(0, 0, 2));
        due(NO, x.side(0, 0, -1));
        x.point(0, 1);
        x.point(1, 1);
        due(0, x.side(0, 0, 0));
        due(NO, x.side(0, 0, 1));
        due(0, x.side(0, 1, 0));
        due(1, x.side(3, 1, 0));
        x.relate(1, 2);
        due(NO, x.side(0, 0, 0));
        due(NO, new OrderAlgebra().side(0, 0, 0));
    }

    private static void coefficient() {
        begin(32);
        OrderAlgebra x = of("parts 4");
        due(-6, x.coefficient(0));
        due(11, x.coefficient(1));
        due(-6, x.coefficient(2));
        due(1, x.coefficient(3));
        due(NO, x.coefficient(4));
        due(NO, x.coefficient(Integer.MAX_VALUE));
        due(NO, x.coefficient(-1));
        due(NO, x.coefficient(Integer.MIN_VALUE));
        tell(x, "free 2");
        due(NO, x.coefficient(0));
        tell(x, "free 5;0<1<2<4;0<3<4");
        due(NO, x.coefficient(0));
        tell(x, "free 4;0<1;0<2;0<3");
        due(-3, x.coefficient(0));
        due(1, x.coefficient(1));
        tell(x, "free 4;0<1<2;0<3");
        due(0, x.coefficient(0));
        due(-2, x.coefficient(1));
        due(1, x.coefficient(2));
        due(NO, x.coefficient(3));
        x = new OrderAlgebra();
        due(1, x.coefficient(0));
        due(NO, x.coefficient(1));
    }

    private static void count() {
        begin(33);
        OrderAlgebra x = of("free 7;1<2<3<4;1<5<6<4;5<3");
        int[] due = {7, 12, 7, 3, 1, 0, 5, 19, 1, 0, 0, 3, 17, 15, 3};
        for (int what = 0; what < due.length; what++) {
            due(due[what], x.count(what));
        }
        due(NONE, x.count(15));
        due(NONE, x.count(-1));
        x.make(0, 2);
        x.make(1, 6);
        x.put(2, 1, 2, 4);
        x.put(3, 1, 4, 4);
        due(1 | 2 | 8, x.count(13));
        due(5, x.count(8));
        x.keep(1);
        due(2, x.count(10));
        Texts.write(x, "chain");
        due(5, x.count(9));
        x = of("cube 4");
        due(81 - 16, x.count(1));
        due(32, x.count(2));
        due(1, x.count(5));
        due(5, x.count(6));
        due(6, x.count(14));
        x = of("free 5;0<1<2<4;0<3<4");
        due(0, x.count(4));
        due(1, x.count(5));
        x = of("free 3;0<1;0<2");
        due(0, x.count(5));
        x.form(0, 0, 0);
        due(0, x.count(5));
        due(6, x.count(11));
        due(1, x.count(12));
        due(16, of("free 16").count(14));
        due(1, of("chain 16").count(14));
        due(16, of("chain 16").count(6));
        due(136, of("chain 16").count(7));
    }

    public static void main(String[] args) {
        newObject();
        feed();
        end();
        tellOrders();
        tellFaults();
        relate();
        formAlone();
        formWithKept();
        make();
        put();
        reckon();
        reckonOverflows();
        invert();
        raise();
        data();
        point();
        undo();
        undoAndShelves();
        keep();
        value();
        same();
        about();
        bound();
        chains();
        moebius();
        multichains();
        sets();
        type();
        typeOfRings();
        split();
        reduced();
        summed();
        gotBack();
        mapped();
        adjoint();
        side();
        coefficient();
        count();
        System.out.println(wrong == 0 ? "all promises hold" : wrong + " checks failed");
        if (wrong != 0) {
            System.exit(1);
        }
    }
}
