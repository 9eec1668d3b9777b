/** Long runs of calls, drawn by a fixed rule, on the class and on the naive model: every answer must be the same. */
public final class ModelTest {
    private static final int RUNS = 700;
    private static final int CALLS = 400;
    private static final String[] KINDS = {"free", "chain", "cube", "divisors", "parts"};
    private static final int[] DIVIDED = {1, 2, 12, 30, 36, 60, 64, 97, 210, 216, 420, 720, 999, 1000};

    private long seed;
    private OrderAlgebra x;
    private Model m;
    private int wrong;
    private final int[] asked = new int[32];
    private final int[] refused = new int[32];
    private String last = "";

    private int below(int bound) {
        seed = seed * 6364136223846793005L + 1442695040888963407L;
        return (int) ((seed >>> 33) % bound);
    }

    private boolean oneIn(int many) {
        return below(many) == 0;
    }

    /** Mostly 0 to end - 1; now and then beside it, or far away. */
    private int near(int end) {
        if (oneIn(14)) {
            int[] far = {-1, -2, end, end + 1, Integer.MAX_VALUE, Integer.MIN_VALUE, 31, 32, 64, -16};
            return far[below(far.length)];
        }
        return below(Math.max(1, end));
    }

    private int element() {
        return near(x.count(0));
    }

    private String text() {
        int kind = below(KINDS.length);
        int[] numbers = {1 + below(9), 1 + below(7), below(4), DIVIDED[below(DIVIDED.length)], 1 + below(4)};
        int number = oneIn(20) ? below(20) : numbers[kind];
        if (oneIn(25)) {
            number = 16;
        }
        StringBuilder text = new StringBuilder();
        blanks(text);
        text.append(KINDS[kind]);
        blanks(text);
        if (oneIn(30)) {
            text.append("000");
        }
        text.append(number);
        int lines = kind == 0 ? below(7) : below(2);
        for (int i = 0; i < lines; i++) {
            blanks(text);
            text.append(';');
            int many = 2 + below(3);
            int element = 0;
            for (int j = 0; j < many; j++) {
                blanks(text);
                element = oneIn(6) ? below(number + 1) : element + below(3) + (j == 0 ? 0 : 1);
                text.append(j == 0 ? "" : "<").append(oneIn(6) ? " " : "").append(element);
            }
        }
        blanks(text);
        return oneIn(5) ? spoilt(text) : text.toString();
    }

    private void blanks(StringBuilder text) {
        for (int i = oneIn(3) ? below(3) : 0; i > 0; i--) {
            text.append(' ');
        }
    }

    private String spoilt(StringBuilder text) {
        String signs = ";<> 09azfreA\0\u00ff";
        for (int i = below(2); i >= 0; i--) {
            int place = below(text.length());
            char sign = signs.charAt(below(signs.length()));
            int how = below(4);
            if (how == 0) {
                text.setCharAt(place, sign);
            } else if (how == 1) {
                text.insert(place, sign);
            } else if (how == 2 && text.length() > 1) {
                text.deleteCharAt(place);
            } else {
                text.setLength(Math.max(1, place));
            }
        }
        return text.toString();
    }

    private void due(int call, String said, long got, long want) {
        asked[call]++;
        refused[call] += want == -1 || want == Long.MIN_VALUE ? 1 : 0;
        last = last + " " + said;
        if (got != want) {
            wrong++;
            if (wrong < 10) {
                System.out.println("after" + last);
                System.out.println(said + " answered " + got + ", the model answers " + want);
            }
        }
    }

    private void tellText(String text) {
        for (int at = 0; at < text.length() || at == 0; at += 20) {
            int[] five = Texts.five(text, at);
            due(0, "feed", x.feed(five[0], five[1], five[2], five[3], five[4]),
                    m.feed(five[0], five[1], five[2], five[3], five[4]));
        }
        int n = oneIn(30) ? near(125) : text.length();
        due(1, "end " + n, x.end(n), m.end(n));
        if (!oneIn(30)) {
            due(2, "tell '" + text + "'", x.tell(), m.tell());
        }
    }

    private int number() {
        int[] some = {0, 1, -1, 2, -2, 3, 7, Integer.MAX_VALUE, Integer.MIN_VALUE, 65536};
        return some[below(oneIn(4) ? some.length : 6)];
    }

    private long largeNumber() {
        long[] some = {Long.MAX_VALUE, Long.MIN_VALUE, Long.MAX_VALUE / 2, Long.MIN_VALUE / 2, 1L << 61};
        return oneIn(8) ? some[below(some.length)] : number();
    }

    private void change() {
        int f = near(4);
        int g = near(4);
        int h = near(4);
        int a = element();
        int b = element();
        int c = near(7);
        int n = oneIn(3) ? near(21) : below(4);
        int v = number();
        switch (below(12)) {
            case 0: due(3, "relate " + a + " " + b, x.relate(a, b), m.relate(a, b)); break;
            case 1: form(); break;
            case 2:
            case 3: due(5, "make " + f + " " + c, x.make(f, c), m.make(f, c)); break;
            case 4:
            case 5: due(6, "put " + f + " " + a + " " + b + " " + v, x.put(f, a, b, v), m.put(f, a, b, v)); break;
            case 6: due(7, "reckon " + f + " " + g + " " + h + " " + c % 4, x.reckon(f, g, h, c % 4),
                    m.reckon(f, g, h, c % 4)); break;
            case 7: due(8, "invert " + f + " " + g, x.invert(f, g), m.invert(f, g)); break;
            case 8: due(9, "raise " + f + " " + g + " " + n, x.raise(f, g, n), m.raise(f, g, n)); break;
            case 9: long d = largeNumber(); due(10, "data " + a + " " + d, x.data(a, d), m.data(a, d)); break;
            case 10: due(12, "undo", x.undo(), m.undo()); break;
            default: due(13, "keep " + c % 3, x.keep(c % 3), m.keep(c % 3)); break;
        }
    }

    private void form() {
        int how = near(6);
        int a = how == 1 ? element() : how == 2 ? below(1 << Math.min(16, x.count(0))) : near(2);
        if (how == 2 && oneIn(8)) {
            a = near(1 << x.count(0));
        }
        int b = element();
        due(4, "form " + how + " " + a + " " + b, x.form(how, a, b), m.form(how, a, b));
    }

    /** A map to the order that is kept, often whole and monotone: it follows heights, or all go to one. */
    private void mapAll() {
        if (oneIn(2)) {
            due(13, "keep 0", x.keep(0), m.keep(0));
            if (oneIn(2)) {
                form();
            }
        }
        int style = below(4);
        int one = near(6);
        for (int e = 0; e < x.count(0); e++) {
            int y = style == 0 ? one : style == 1 ? e : style == 2 ? x.about(e, 4) : near(5);
            due(11, "point " + e + " " + y, x.point(e, y), m.point(e, y));
        }
        for (int what = 0; what < 3; what++) {
            due(27, "mapped " + what, x.mapped(what), m.mapped(what));
        }
        for (int p = 0; p < x.count(0); p++) {
            due(28, "adjoint " + p, x.adjoint(p), m.adjoint(p));
            int q = near(6);
            due(29, "side " + p + " " + q + " 0", x.side(p, q, 0), m.side(p, q, 0));
            due(29, "side " + p + " " + q + " 1", x.side(p, q, 1), m.side(p, q, 1));
        }
    }

    private void ask() {
        int f = near(4);
        int g = near(4);
        int a = element();
        int b = element();
        int k = oneIn(9) ? near(17) : below(8) - 2;
        int t = near(5);
        int w = near(3);
        boolean large = x.count(0) > 10;
        switch (below(21)) {
            case 0: due(14, "value " + f + " " + a + " " + b, x.value(f, a, b), m.value(f, a, b)); break;
            case 1: due(15, "same " + f + " " + g, x.same(f, g), m.same(f, g)); break;
            case 2: due(16, "about " + a + " " + t, x.about(a, t), m.about(a, t)); break;
            case 3: due(16, "about " + a + " 5", x.about(a, 5), m.about(a, 5)); break;
            case 4: due(17, "bound " + a + " " + b + " " + w, x.bound(a, b, w), m.bound(a, b, w)); break;
            case 5: due(18, "chains " + a + " " + b + " " + k, x.chains(a, b, k), m.chains(a, b, k)); break;
            case 6: int way = near(4); due(19, "moebius " + a + " " + b + " " + way, x.moebius(a, b, way),
                    m.moebius(a, b, way)); break;
            case 7: int n = near(31); due(20, "multichains " + a + " " + b + " " + n, x.multichains(a, b, n),
                    m.multichains(a, b, n)); break;
            case 8: if (!large || oneIn(20)) { due(21, "sets " + w + " " + k, x.sets(w, k), m.sets(w, k)); } break;
            case 9: due(22, "type " + a + " " + b, x.type(a, b), m.type(a, b)); break;
            case 10:
            case 11: splits(); break;
            case 12: due(24, "reduced " + f + " " + t, x.reduced(f, t), m.reduced(f, t)); break;
            case 13: due(25, "summed " + a + " " + w % 2, x.summed(a, w % 2), m.summed(a, w % 2)); break;
            case 14: due(26, "gotBack " + a + " " + w % 2, x.gotBack(a, w % 2), m.gotBack(a, w % 2)); break;
            case 15: due(27, "mapped " + w, x.mapped(w), m.mapped(w)); break;
            case 16: due(28, "adjoint " + b, x.adjoint(b), m.adjoint(b)); break;
            case 17: due(29, "side " + a + " " + b + " " + w, x.side(a, b, w), m.side(a, b, w)); break;
            case 18: due(30, "coefficient " + t, x.coefficient(t), m.coefficient(t)); break;
            default: int what = near(15); if (what != 14 || !large || oneIn(20)) {
                due(31, "count " + what, x.count(what), m.count(what));
            } break;
        }
    }

    private void splits() {
        int types = x.count(6);
        int a = element();
        int b = element();
        int c = element();
        int t = oneIn(3) ? near(types) : x.type(a, b);
        int r = oneIn(3) ? near(types) : x.type(a, c);
        int s = oneIn(3) ? near(types) : x.type(c, b);
        due(23, "split " + t + " " + r + " " + s, x.split(t, r, s), m.split(t, r, s));
    }

    private void run(int number) {
        seed = number * 1000003L + 17;
        x = new OrderAlgebra();
        m = new Model();
        last = " (run " + number + ")";
        for (int i = 0; i < CALLS; i++) {
            int draw = below(40);
            if (draw == 0 || i == 0) {
                tellText(text());
            } else if (draw == 1) {
                mapAll();
            } else if (draw < 14) {
                change();
            } else {
                ask();
            }
        }
    }

    /** A test that never reached a call, or never was refused by it, would tell nothing of it. Only tell has no NONE. */
    private void seeThatAllWereAsked() {
        for (int call = 0; call < asked.length; call++) {
            boolean refusals = refused[call] > 0 || call == 2;
            if (asked[call] - refused[call] < 100 || !refusals) {
                wrong++;
                System.out.println("call " + call + " asked " + asked[call] + ", refused " + refused[call]);
            }
        }
    }

    public static void main(String[] args) {
        ModelTest test = new ModelTest();
        int from = args.length > 0 ? Integer.parseInt(args[0]) : 0;
        int to = args.length > 1 ? Integer.parseInt(args[1]) : RUNS;
        for (int number = from; number < to && test.wrong == 0; number++) {
            test.run(number);
        }
        if (args.length == 0) {
            test.seeThatAllWereAsked();
        }
        System.out.println(test.wrong == 0 ? "the class answers as the model" : test.wrong + " answers differ");
        if (test.wrong != 0) {
            System.exit(1);
        }
    }
}
