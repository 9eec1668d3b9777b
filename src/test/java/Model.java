import java.math.BigInteger;
import java.util.ArrayDeque;
import java.util.ArrayList;
import java.util.Deque;
import java.util.List;

/**
 * The document once more, in the most naive way that its words allow and with nothing shared with the class: boolean
 * tables, BigIntegers, sets tried one by one. ModelTest holds the class against it.
 */
final class Model {
    private static final long NO = Long.MIN_VALUE;
    private static final BigInteger LOW = BigInteger.valueOf(Long.MIN_VALUE);
    private static final BigInteger HIGH = BigInteger.valueOf(Long.MAX_VALUE);

    /** An order as a table: below[a][b], a is below b. */
    static final class Table {
        final int n;
        final boolean[][] below;

        Table(int n) {
            this.n = n;
            below = new boolean[n][n];
        }

        Table copy() {
            Table t = new Table(n);
            for (int a = 0; a < n; a++) {
                t.below[a] = below[a].clone();
            }
            return t;
        }

        void close() {
            for (int k = 0; k < n; k++) {
                for (int a = 0; a < n; a++) {
                    for (int b = 0; b < n; b++) {
                        below[a][b] |= below[a][k] && below[k][b];
                    }
                }
            }
        }

        boolean has(int a) {
            return a >= 0 && a < n;
        }

        boolean le(int a, int b) {
            return has(a) && has(b) && (a == b || below[a][b]);
        }

        boolean covers(int b, int a) {
            if (!below[a][b]) {
                return false;
            }
            for (int c = 0; c < n; c++) {
                if (below[a][c] && below[c][b]) {
                    return false;
                }
            }
            return true;
        }

        List<Integer> interval(int a, int b) {
            List<Integer> all = new ArrayList<>();
            for (int x = 0; x < n; x++) {
                if (le(a, x) && le(x, b)) {
                    all.add(x);
                }
            }
            return all;
        }

        int height(int x) {
            int[] longest = new int[n];
            for (int round = 0; round < n; round++) {
                for (int a = 0; a < n; a++) {
                    for (int b = 0; b < n; b++) {
                        if (below[a][b]) {
                            longest[b] = Math.max(longest[b], longest[a] + 1);
                        }
                    }
                }
            }
            return longest[x];
        }

        long mu(int a, int b) {
            return mu(a, b, new Long[n]);
        }

        private long mu(int a, int b, Long[] known) {
            if (a == b) {
                return 1;
            }
            if (known[b] == null) {
                long total = 0;
                for (int x : interval(a, b)) {
                    if (x != b) {
                        total -= mu(a, x, known);
                    }
                }
                known[b] = total;
            }
            return known[b];
        }

        int join(int a, int b, List<Integer> among) {
            for (int x : among) {
                boolean best = le(a, x) && le(b, x);
                for (int y : among) {
                    best &= !(le(a, y) && le(b, y)) || le(x, y);
                }
                if (best) {
                    return x;
                }
            }
            return -2;
        }

        int meet(int a, int b) {
            return turned().join(a, b, everything());
        }

        List<Integer> everything() {
            List<Integer> all = new ArrayList<>();
            for (int x = 0; x < n; x++) {
                all.add(x);
            }
            return all;
        }

        Table turned() {
            Table t = new Table(n);
            for (int a = 0; a < n; a++) {
                for (int b = 0; b < n; b++) {
                    t.below[b][a] = below[a][b];
                }
            }
            return t;
        }

        Table part(List<Integer> chosen) {
            Table t = new Table(chosen.size());
            for (int a = 0; a < t.n; a++) {
                for (int b = 0; b < t.n; b++) {
                    t.below[a][b] = below[chosen.get(a)][chosen.get(b)];
                }
            }
            return t;
        }

        boolean isDown(int set) {
            for (int a = 0; a < n; a++) {
                for (int b = 0; b < n; b++) {
                    if (below[a][b] && (set >> b & 1) == 1 && (set >> a & 1) == 0) {
                        return false;
                    }
                }
            }
            return true;
        }

        boolean isFree(int set) {
            for (int a = 0; a < n; a++) {
                for (int b = 0; b < n; b++) {
                    if (below[a][b] && (set >> b & 1) == 1 && (set >> a & 1) == 1) {
                        return false;
                    }
                }
            }
            return true;
        }

        long extensions() {
            long[] ways = new long[1 << n];
            ways[0] = 1;
            for (int set = 1; set < 1 << n; set++) {
                if (isDown(set)) {
                    for (int x = 0; x < n; x++) {
                        if ((set >> x & 1) == 1) {
                            ways[set] += ways[set & ~(1 << x)];
                        }
                    }
                }
            }
            return ways[(1 << n) - 1];
        }

        boolean alike(int a, int b, int c, int d) {
            List<Integer> one = interval(a, b);
            List<Integer> two = interval(c, d);
            return one.size() == two.size() && pair(one, two, new ArrayList<>());
        }

        private boolean pair(List<Integer> one, List<Integer> two, List<Integer> chosen) {
            int i = chosen.size();
            if (i == one.size()) {
                return true;
            }
            for (int y : two) {
                boolean fits = !chosen.contains(y);
                for (int j = 0; fits && j < i; j++) {
                    fits = le(one.get(j), one.get(i)) == le(chosen.get(j), y)
                            && le(one.get(i), one.get(j)) == le(y, chosen.get(j));
                }
                if (fits) {
                    chosen.add(y);
                    if (pair(one, two, chosen)) {
                        return true;
                    }
                    chosen.remove(i);
                }
            }
            return false;
        }
    }

    private static final class Snapshot {
        Table order;
        long[][][] functions;
        long[] data;
        int[] map;
        int kept;
    }

    private final List<Integer> tape = new ArrayList<>();
    private Table order = new Table(1);
    private long[][][] functions = new long[4][16][16];
    private long[] data = new long[16];
    private int[] map = noMap();
    private final Table[] shelves = new Table[2];
    private int kept;
    private final Deque<Snapshot> acts = new ArrayDeque<>();
    private int[][] types;
    private List<int[]> firsts;

    private static int[] noMap() {
        int[] none = new int[16];
        java.util.Arrays.fill(none, -1);
        return none;
    }

    private static long[][][] copyOf(long[][][] values) {
        long[][][] copy = new long[4][16][];
        for (int f = 0; f < 4; f++) {
            for (int a = 0; a < 16; a++) {
                copy[f][a] = values[f][a].clone();
            }
        }
        return copy;
    }

    private void act() {
        Snapshot s = new Snapshot();
        s.order = order;
        s.functions = copyOf(functions);
        s.data = data.clone();
        s.map = map.clone();
        s.kept = kept;
        acts.addLast(s);
        if (acts.size() > 8) {
            acts.removeFirst();
        }
    }

    private int become(Table other) {
        act();
        order = other;
        types = null;
        functions = new long[4][16][16];
        data = new long[16];
        map = noMap();
        return order.n;
    }

    private static boolean fun(int f) {
        return f >= 0 && f < 4;
    }

    int feed(int a, int b, int c, int d, int e) {
        if (tape.size() > 100) {
            return -1;
        }
        for (int number : new int[] {a, b, c, d, e}) {
            for (int i = 3; i >= 0; i--) {
                tape.add(number >>> 8 * i & 255);
            }
        }
        return tape.size();
    }

    int end(int n) {
        if (n < 0 || n > tape.size()) {
            return -1;
        }
        tape.subList(n, tape.size()).clear();
        return n;
    }

    int tell() {
        StringBuilder text = new StringBuilder();
        for (int sign : tape) {
            text.append((char) sign);
        }
        tape.clear();
        TextModel told = new TextModel(text.toString());
        return told.fault != 0 ? -2 - told.fault : become(told.order);
    }

    int relate(int a, int b) {
        if (!order.has(a) || !order.has(b)) {
            return -1;
        }
        if (order.below[a][b]) {
            return -2;
        }
        if (order.le(b, a)) {
            return -3;
        }
        Table more = order.copy();
        more.below[a][b] = true;
        more.close();
        become(more);
        return count(2);
    }

    int form(int how, int a, int b) {
        List<Integer> chosen = new ArrayList<>();
        if (how == 0) {
            return become(order.turned());
        } else if (how == 1) {
            chosen = order.interval(a, b);
        } else if (how == 2) {
            for (int x = 0; x < 32; x++) {
                if ((a >> x & 1) == 1) {
                    if (x >= order.n) {
                        return -1;
                    }
                    chosen.add(x);
                }
            }
        } else if (how == 3 || how == 4 || how == 5) {
            return a < 0 || a > 1 || shelves[a] == null ? -1 : formTwo(how, shelves[a]);
        }
        return chosen.isEmpty() ? -1 : become(order.part(chosen));
    }

    private int formTwo(int how, Table that) {
        int n = how == 5 ? order.n * that.n : order.n + that.n;
        if (n > 16) {
            return -2;
        }
        Table t = new Table(n);
        for (int i = 0; i < n; i++) {
            for (int j = 0; j < n; j++) {
                if (how == 5) {
                    boolean le = order.le(i / that.n, j / that.n) && that.le(i % that.n, j % that.n);
                    t.below[i][j] = i != j && le;
                } else if (i < order.n && j < order.n) {
                    t.below[i][j] = order.below[i][j];
                } else if (i >= order.n && j >= order.n) {
                    t.below[i][j] = that.below[i - order.n][j - order.n];
                } else {
                    t.below[i][j] = how == 4 && i < order.n;
                }
            }
        }
        return become(t);
    }

    int make(int f, int kind) {
        if (!fun(f) || kind < 0 || kind > 6) {
            return -1;
        }
        act();
        for (int a = 0; a < order.n; a++) {
            for (int b = 0; b < order.n; b++) {
                if (order.le(a, b)) {
                    long[] ofKind = {0, a == b ? 1 : 0, 1, order.mu(a, b), a == b ? 0 : 1,
                        order.covers(b, a) ? 1 : 0, order.interval(a, b).size()};
                    functions[f][a][b] = ofKind[kind];
                }
            }
        }
        return kind;
    }

    int put(int f, int a, int b, int value) {
        if (!fun(f) || !order.le(a, b)) {
            return -1;
        }
        if (functions[f][a][b] == value) {
            return -2;
        }
        act();
        functions[f][a][b] = value;
        return 1;
    }

    private static boolean fits(BigInteger v) {
        return v.compareTo(LOW) >= 0 && v.compareTo(HIGH) <= 0;
    }

    /** The sum of products, null if it goes beyond anywhere. */
    private static Long sum(List<long[]> products) {
        BigInteger total = BigInteger.ZERO;
        for (long[] p : products) {
            BigInteger product = BigInteger.valueOf(p[0]).multiply(BigInteger.valueOf(p[1]));
            total = total.add(product);
            if (!fits(product) || !fits(total)) {
                return null;
            }
        }
        return total.longValue();
    }

    private long[][] times(long[][] f, long[][] g) {
        long[][] h = new long[16][16];
        for (int a = 0; a < order.n; a++) {
            for (int b = 0; b < order.n; b++) {
                List<long[]> products = new ArrayList<>();
                for (int x : order.interval(a, b)) {
                    products.add(new long[] {f[a][x], g[x][b]});
                }
                Long total = sum(products);
                if (total == null) {
                    return null;
                }
                h[a][b] = total;
            }
        }
        return h;
    }

    private long[][] each(long[][] f, long[][] g, int how) {
        long[][] h = new long[16][16];
        for (int a = 0; a < order.n; a++) {
            for (int b = 0; b < order.n; b++) {
                BigInteger x = BigInteger.valueOf(f[a][b]);
                BigInteger y = BigInteger.valueOf(g[a][b]);
                BigInteger z = how == 0 ? x.add(y) : how == 1 ? x.subtract(y) : x.multiply(y);
                if (!fits(z)) {
                    return null;
                }
                h[a][b] = z.longValue();
            }
        }
        return h;
    }

    private int store(int f, long[][] values) {
        if (values == null) {
            return -3;
        }
        act();
        functions[f] = values;
        return 1;
    }

    int reckon(int f, int x, int y, int how) {
        if (!fun(f) || !fun(x) || !fun(y) || how < 0 || how > 3) {
            return -1;
        }
        long[][] g = functions[x];
        return store(f, how == 2 ? times(g, functions[y]) : each(g, functions[y], how));
    }

    int invert(int f, int x) {
        if (!fun(f) || !fun(x)) {
            return -1;
        }
        for (int a = 0; a < order.n; a++) {
            if (Math.abs(functions[x][a][a]) != 1) {
                return -2;
            }
        }
        return store(f, inverse(functions[x]));
    }

    private long[][] inverse(long[][] f) {
        Long[][] g = new Long[16][16];
        long[][] result = new long[16][16];
        for (int a = 0; a < order.n; a++) {
            for (int b = 0; b < order.n; b++) {
                if (order.le(a, b)) {
                    Long one = inverseAt(f, a, b, g);
                    if (one == null) {
                        return null;
                    }
                    result[a][b] = one;
                }
            }
        }
        return result;
    }

    private Long inverseAt(long[][] f, int a, int b, Long[][] g) {
        if (a == b) {
            return f[a][a];
        }
        if (g[a][b] == null) {
            List<long[]> products = new ArrayList<>();
            for (int x : order.interval(a, b)) {
                if (x != a) {
                    Long behind = inverseAt(f, x, b, g);
                    if (behind == null) {
                        return null;
                    }
                    products.add(new long[] {f[a][x], behind});
                }
            }
            Long total = sum(products);
            g[a][b] = total == null ? null : sum(List.of(new long[] {-f[a][a], total}));
        }
        return g[a][b];
    }

    int raise(int f, int x, int n) {
        if (!fun(f) || !fun(x) || n < 0 || n > 20) {
            return -1;
        }
        long[][] power = new long[16][16];
        for (int a = 0; a < order.n; a++) {
            power[a][a] = 1;
        }
        for (int i = 0; i < n && power != null; i++) {
            power = times(power, functions[x]);
        }
        return store(f, power);
    }

    int data(int x, long value) {
        if (!order.has(x)) {
            return -1;
        }
        if (data[x] == value) {
            return -2;
        }
        act();
        data[x] = value;
        return 1;
    }

    private boolean there(int y) {
        return shelves[0] != null && shelves[0].has(y);
    }

    int point(int x, int y) {
        if (!order.has(x) || !there(y)) {
            return -1;
        }
        if (map[x] == y) {
            return -2;
        }
        act();
        map[x] = y;
        return 1;
    }

    int undo() {
        if (acts.isEmpty()) {
            return -1;
        }
        Snapshot s = acts.removeLast();
        order = s.order;
        types = null;
        functions = s.functions;
        data = s.data;
        map = s.kept == kept ? s.map : noMap();
        return acts.size();
    }

    int keep(int shelf) {
        if (shelf < 0 || shelf > 1) {
            return -1;
        }
        shelves[shelf] = order.copy();
        if (shelf == 0) {
            map = noMap();
            kept++;
        }
        return order.n;
    }

    long value(int f, int a, int b) {
        return fun(f) && order.le(a, b) ? functions[f][a][b] : NO;
    }

    int same(int f, int g) {
        return !fun(f) || !fun(g) ? -1 : java.util.Arrays.deepEquals(functions[f], functions[g]) ? 1 : 0;
    }

    private static int bit(boolean is, int x) {
        return is ? 1 << x : 0;
    }

    int about(int x, int what) {
        if (!order.has(x) || what < 0 || what > 5) {
            return -1;
        }
        int[] bits = new int[4];
        for (int y = 0; y < order.n; y++) {
            bits[0] |= bit(order.le(y, x), y);
            bits[1] |= bit(order.le(x, y), y);
            bits[2] |= bit(order.covers(y, x), y);
            bits[3] |= bit(order.covers(x, y), y);
        }
        return what < 4 ? bits[what] : what == 4 ? order.height(x) : map[x] < 0 ? -2 : map[x];
    }

    int bound(int a, int b, int what) {
        if (!order.has(a) || !order.has(b) || what < 0 || what > 2) {
            return -1;
        }
        int bits = 0;
        for (int x : order.interval(a, b)) {
            bits |= 1 << x;
        }
        return what == 0 ? order.join(a, b, order.everything()) : what == 1 ? order.meet(a, b) : bits;
    }

    private long chainsFrom(int a, int b, int k, boolean covers) {
        if (k == 0) {
            return a == b ? 1 : 0;
        }
        long total = 0;
        for (int x = 0; x < order.n; x++) {
            if (order.le(x, b) && (covers ? order.covers(x, a) : order.below[a][x])) {
                total += chainsFrom(x, b, k - 1, covers);
            }
        }
        return total;
    }

    long chains(int a, int b, int k) {
        if (!order.has(a) || !order.has(b) || k < -2 || k > 15) {
            return -1;
        }
        if (k >= 0) {
            return chainsFrom(a, b, k, false);
        }
        long total = 0;
        for (int i = 0; i <= 15; i++) {
            total += chainsFrom(a, b, i, k == -2);
        }
        return total;
    }

    long moebius(int a, int b, int way) {
        if (!order.le(a, b) || way < 0 || way > 3) {
            return NO;
        }
        return way == 3 ? crossCut(a, b) : order.mu(a, b);
    }

    private long crossCut(int a, int b) {
        List<Integer> all = order.interval(a, b);
        List<Integer> atoms = new ArrayList<>();
        for (int x : all) {
            for (int y : all) {
                if (order.join(x, y, all) < 0) {
                    return NO;
                }
            }
            if (order.covers(x, a)) {
                atoms.add(x);
            }
        }
        long total = 0;
        for (int set = 0; set < 1 << atoms.size(); set++) {
            int join = a;
            for (int i = 0; i < atoms.size(); i++) {
                join = (set >> i & 1) == 1 ? order.join(join, atoms.get(i), all) : join;
            }
            total += join != b ? 0 : Integer.bitCount(set) % 2 == 0 ? 1 : -1;
        }
        return total;
    }

    long multichains(int a, int b, int n) {
        if (!order.le(a, b) || n < 0 || n > 30) {
            return -1;
        }
        long[][] zeta = new long[16][16];
        long[][] power = new long[16][16];
        for (int x = 0; x < order.n; x++) {
            power[x][x] = 1;
            for (int y = 0; y < order.n; y++) {
                zeta[x][y] = order.le(x, y) ? 1 : 0;
            }
        }
        for (int i = 0; i < n; i++) {
            power = times(power, zeta);
        }
        return power[a][b];
    }

    long sets(int what, int n) {
        if (what == 1) {
            return order.extensions();
        }
        if (what != 0 && what != 2 || what == 2 && (n < 0 || n > order.n)) {
            return -1;
        }
        long total = 0;
        for (int set = 0; set < 1 << order.n; set++) {
            total += order.isDown(set) && (what == 0 || Integer.bitCount(set) == n) ? 1 : 0;
        }
        return total;
    }

    private void findTypes() {
        if (types != null) {
            return;
        }
        types = new int[16][16];
        firsts = new ArrayList<>();
        for (int a = 0; a < order.n; a++) {
            for (int b = 0; b < order.n; b++) {
                if (order.le(a, b)) {
                    int t = 0;
                    while (t < firsts.size() && !order.alike(a, b, firsts.get(t)[0], firsts.get(t)[1])) {
                        t++;
                    }
                    if (t == firsts.size()) {
                        firsts.add(new int[] {a, b});
                    }
                    types[a][b] = t;
                }
            }
        }
    }

    int type(int a, int b) {
        findTypes();
        return order.le(a, b) ? types[a][b] : -1;
    }

    private boolean hasType(int t) {
        findTypes();
        return t >= 0 && t < firsts.size();
    }

    int split(int t, int r, int s) {
        if (!hasType(t) || !hasType(r) || !hasType(s)) {
            return -1;
        }
        int total = 0;
        int[] first = firsts.get(t);
        for (int x : order.interval(first[0], first[1])) {
            total += types[first[0]][x] == r && types[x][first[1]] == s ? 1 : 0;
        }
        return total;
    }

    private boolean isReduced(int f) {
        findTypes();
        for (int a = 0; a < order.n; a++) {
            for (int b = 0; b < order.n; b++) {
                if (order.le(a, b)) {
                    int[] first = firsts.get(types[a][b]);
                    if (functions[f][a][b] != functions[f][first[0]][first[1]]) {
                        return false;
                    }
                }
            }
        }
        return true;
    }

    long reduced(int f, int t) {
        return fun(f) && hasType(t) && isReduced(f) ? functions[f][firsts.get(t)[0]][firsts.get(t)[1]] : NO;
    }

    private long told(int x, int how, boolean back) {
        if (!order.has(x) || how < 0 || how > 1) {
            return NO;
        }
        List<long[]> products = new ArrayList<>();
        for (int y = 0; y < order.n; y++) {
            if (how == 0 ? order.le(y, x) : order.le(x, y)) {
                long mu = how == 0 ? order.mu(y, x) : order.mu(x, y);
                products.add(new long[] {data[y], back ? mu : 1});
            }
        }
        Long total = sum(products);
        return total == null ? NO : total;
    }

    long summed(int x, int how) {
        return told(x, how, false);
    }

    long gotBack(int x, int how) {
        return told(x, how, true);
    }

    private boolean whole() {
        for (int x = 0; x < order.n; x++) {
            if (map[x] < 0) {
                return false;
            }
        }
        return true;
    }

    private int adjointOf(int y) {
        for (int x = 0; x < order.n; x++) {
            boolean best = shelves[0].le(map[x], y);
            for (int z = 0; z < order.n; z++) {
                best &= !shelves[0].le(map[z], y) || order.le(z, x);
            }
            if (best) {
                return x;
            }
        }
        return -2;
    }

    private boolean joined() {
        for (int y = 0; y < shelves[0].n; y++) {
            if (adjointOf(y) < 0) {
                return false;
            }
        }
        return true;
    }

    int mapped(int what) {
        if (what < 0 || what > 2) {
            return -1;
        }
        if (what == 0 || !whole()) {
            return what == 0 ? whole() ? 1 : 0 : -2;
        }
        boolean monotone = true;
        for (int a = 0; a < order.n; a++) {
            for (int b = 0; b < order.n; b++) {
                monotone &= !order.le(a, b) || shelves[0].le(map[a], map[b]);
            }
        }
        return (what == 1 ? monotone : joined()) ? 1 : 0;
    }

    int adjoint(int y) {
        return !there(y) || !whole() ? -1 : adjointOf(y);
    }

    long side(int p, int q, int what) {
        if (!order.has(p) || !there(q) || what < 0 || what > 1 || !whole() || what == 1 && !joined()) {
            return NO;
        }
        long total = 0;
        for (int x = 0; what == 0 && x < order.n; x++) {
            total += order.le(p, x) && map[x] == q ? order.mu(p, x) : 0;
        }
        for (int y = 0; what == 1 && y < shelves[0].n; y++) {
            total += shelves[0].le(y, q) && adjointOf(y) == p ? shelves[0].mu(y, q) : 0;
        }
        return total;
    }

    long coefficient(int i) {
        int z = -1;
        for (int x = 0; x < order.n; x++) {
            if (about(x, 1) == (1 << order.n) - 1) {
                z = x;
            }
        }
        if (i < 0 || z < 0 || count(4) == 0) {
            return NO;
        }
        long total = 0;
        boolean some = false;
        for (int x = 0; x < order.n; x++) {
            if ((long) order.height(x) == (long) count(3) - i) {
                some = true;
                total += order.mu(z, x);
            }
        }
        return some ? total : NO;
    }

    int count(int what) {
        int pairs = 0;
        int covers = 0;
        int tallest = 0;
        boolean graded = true;
        boolean lattice = true;
        int low = 0;
        int high = 0;
        for (int a = 0; a < order.n; a++) {
            tallest = Math.max(tallest, order.height(a));
            low |= bit(about(a, 0) == 1 << a, a);
            high |= bit(about(a, 1) == 1 << a, a);
            for (int b = 0; b < order.n; b++) {
                pairs += order.below[a][b] ? 1 : 0;
                covers += order.covers(b, a) ? 1 : 0;
                graded &= !order.covers(b, a) || order.height(b) == order.height(a) + 1;
                lattice &= order.join(a, b, order.everything()) >= 0 && order.meet(a, b) >= 0;
            }
        }
        int bits = 0;
        switch (what) {
            case 0: return order.n;
            case 1: return pairs;
            case 2: return covers;
            case 3: return tallest;
            case 4: return graded ? 1 : 0;
            case 5: return lattice ? 1 : 0;
            case 6: findTypes(); return firsts.size();
            case 7: return order.n + pairs;
            case 8: return acts.size();
            case 9: return tape.size();
            case 10: return bit(shelves[0] != null, 0) | bit(shelves[1] != null, 1);
            case 11: return low;
            case 12: return high;
            case 13:
                for (int f = 0; f < 4; f++) {
                    bits |= bit(isReduced(f), f);
                }
                return bits;
            case 14:
                for (int set = 0; set < 1 << order.n; set++) {
                    bits = Math.max(bits, order.isFree(set) ? Integer.bitCount(set) : 0);
                }
                return bits;
            default: return -1;
        }
    }
}
