import java.util.Arrays;

/**
 * Orders of at most sixteen elements, and the algebra of functions on their intervals.
 *
 * Sets of elements are ints, a bit for each element. Rows are made once, with the object, and used
 * again, because all that a run of calls makes shares one room.
 */
public final class OrderAlgebra {
    public static final int NONE = -1;

    private static final int REFUSED = -2;
    private static final int BEYOND = -3;
    private static final long NO_VALUE = Long.MIN_VALUE;

    private static final int MOST_ELEMENTS = 16;
    private static final int CELLS = MOST_ELEMENTS * MOST_ELEMENTS;
    private static final int MOST_INTERVALS = MOST_ELEMENTS * (MOST_ELEMENTS + 1) / 2;
    private static final int MOST_FUNCTIONS = 4;
    private static final int LAST_KIND = 6;
    private static final int MOST_SHELVES = 2;
    private static final int MOST_UNDONE = 8;
    private static final int MOST_BYTES = 120;
    private static final int BYTES_A_FEED = 20;
    private static final int MOST_POWER = 20;
    private static final int MOST_ZETA_POWER = 30;
    private static final int LONGEST_CHAIN = 15;
    private static final int COVERING_CHAINS = -2;

    private final Tape tape;
    private final Reader reader;
    private final Order order;
    private final Order draft;
    private final Order[] shelves;
    private final Functions functions;
    private final long[] facts;
    private final Mapping mapping;
    private final Paths paths;
    private final Likeness likeness;
    private final SetCounts setCounts;
    private final History history;
    private final Sum sum;
    private final long[] moebiusRow;
    private int keptShelves;
    private int timesKept;

    public OrderAlgebra() {
        tape = new Tape();
        order = new Order();
        draft = new Order();
        reader = new Reader(tape, draft);
        shelves = new Order[MOST_SHELVES];
        for (int shelf = 0; shelf < MOST_SHELVES; shelf++) {
            shelves[shelf] = new Order();
        }
        sum = new Sum();
        functions = new Functions(order, sum);
        facts = new long[MOST_ELEMENTS];
        mapping = new Mapping(order, shelves[0]);
        paths = new Paths(order);
        likeness = new Likeness(order);
        setCounts = new SetCounts(order);
        history = new History();
        moebiusRow = new long[MOST_ELEMENTS];
    }

    // ---- the tape, and orders made from it or from others ----

    public int feed(int a, int b, int c, int d, int e) {
        if (tape.size + BYTES_A_FEED > MOST_BYTES) {
            return NONE;
        }
        tape.append(a);
        tape.append(b);
        tape.append(c);
        tape.append(d);
        tape.append(e);
        return tape.size;
    }

    public int end(int n) {
        if (n < 0 || n > tape.size) {
            return NONE;
        }
        tape.size = n;
        return n;
    }

    public int tell() {
        int fault = reader.read();
        tape.size = 0;
        if (fault != 0) {
            return -2 - fault;
        }
        return adoptDraft();
    }

    public int relate(int a, int b) {
        if (!order.has(a) || !order.has(b)) {
            return NONE;
        }
        if (order.isBelow(a, b)) {
            return REFUSED;
        }
        if (order.atMost(b, a)) {
            return BEYOND;
        }
        draft.copy(order.size, order.above);
        draft.link(a, b);
        adoptDraft();
        return order.pairs(order.coveredBy);
    }

    public int form(int how, int a, int b) {
        if (how >= 3 && how <= 5) {
            return formWithKept(how, a);
        }
        if (how == 0) {
            draft.becomeTurned(order);
            return adoptDraft();
        }
        if (how != 1 && how != 2) {
            return NONE;
        }
        int set = how == 1 ? order.between(a, b) : a;
        if (set == 0 || (set & ~order.all()) != 0) {
            return NONE;
        }
        draft.becomePart(order, set);
        return adoptDraft();
    }

    private int formWithKept(int how, int shelf) {
        if (!isKept(shelf)) {
            return NONE;
        }
        Order other = shelves[shelf];
        int size = how == 5 ? order.size * other.size : order.size + other.size;
        if (size > MOST_ELEMENTS) {
            return REFUSED;
        }
        if (how == 5) {
            draft.becomePairs(order, other);
        } else {
            draft.becomeBoth(order, other, how == 4);
        }
        return adoptDraft();
    }

    public int keep(int shelf) {
        if (shelf < 0 || shelf >= MOST_SHELVES) {
            return NONE;
        }
        shelves[shelf].copy(order.size, order.above);
        shelves[shelf].derive();
        keptShelves |= 1 << shelf;
        if (shelf == 0) {
            mapping.clear();
            timesKept++;
        }
        return order.size;
    }

    private boolean isKept(int shelf) {
        return shelf >= 0 && shelf < MOST_SHELVES && (keptShelves >> shelf & 1) == 1;
    }

    /** What was told of the order before speaks of other intervals, so it goes with it. */
    private int adoptDraft() {
        remember();
        order.copy(draft.size, draft.above);
        order.derive();
        forgetReckoned();
        functions.clear();
        Arrays.fill(facts, 0L);
        mapping.clear();
        return order.size;
    }

    private void forgetReckoned() {
        likeness.forget();
        setCounts.forget();
    }

    // ---- acts that can be undone ----

    private void remember() {
        State state = history.push();
        state.size = order.size;
        state.timesKept = timesKept;
        System.arraycopy(order.above, 0, state.above, 0, MOST_ELEMENTS);
        System.arraycopy(functions.values, 0, state.values, 0, MOST_FUNCTIONS * CELLS);
        System.arraycopy(facts, 0, state.facts, 0, MOST_ELEMENTS);
        System.arraycopy(mapping.ones, 0, state.ones, 0, MOST_ELEMENTS);
    }

    public int undo() {
        State state = history.pop();
        if (state == null) {
            return NONE;
        }
        if (!order.isTold(state.size, state.above)) {
            order.copy(state.size, state.above);
            order.derive();
            forgetReckoned();
        }
        System.arraycopy(state.values, 0, functions.values, 0, MOST_FUNCTIONS * CELLS);
        System.arraycopy(state.facts, 0, facts, 0, MOST_ELEMENTS);
        System.arraycopy(state.ones, 0, mapping.ones, 0, MOST_ELEMENTS);
        if (state.timesKept != timesKept) {
            mapping.clear();
        }
        return history.size;
    }

    // ---- functions ----

    private static boolean isFunction(int function) {
        return function >= 0 && function < MOST_FUNCTIONS;
    }

    public int make(int function, int kind) {
        if (!isFunction(function) || kind < 0 || kind > LAST_KIND) {
            return NONE;
        }
        functions.reckonKind(kind);
        return storeReckoned(function, kind);
    }

    public int put(int function, int a, int b, int value) {
        if (!isFunction(function) || !order.atMost(a, b)) {
            return NONE;
        }
        if (functions.at(function, a, b) == value) {
            return REFUSED;
        }
        remember();
        functions.values[Functions.cell(function, a, b)] = value;
        return 1;
    }

    public int reckon(int function, int x, int y, int how) {
        if (!isFunction(function) || !isFunction(x) || !isFunction(y) || how < 0 || how > 3) {
            return NONE;
        }
        sum.begin();
        if (how == 2) {
            functions.reckonProduct(functions.values, x * CELLS, y);
        } else {
            functions.reckonEach(x, y, how);
        }
        return sum.over ? BEYOND : storeReckoned(function, 1);
    }

    public int invert(int function, int x) {
        if (!isFunction(function) || !isFunction(x)) {
            return NONE;
        }
        if (!functions.isInvertible(x)) {
            return REFUSED;
        }
        sum.begin();
        functions.reckonInverse(x);
        return sum.over ? BEYOND : storeReckoned(function, 1);
    }

    public int raise(int function, int x, int n) {
        if (!isFunction(function) || !isFunction(x) || n < 0 || n > MOST_POWER) {
            return NONE;
        }
        sum.begin();
        functions.reckonPower(x, n);
        return sum.over ? BEYOND : storeReckoned(function, 1);
    }

    private int storeReckoned(int function, int answer) {
        remember();
        functions.store(function);
        return answer;
    }

    public long value(int function, int a, int b) {
        if (!isFunction(function) || !order.atMost(a, b)) {
            return NO_VALUE;
        }
        return functions.at(function, a, b);
    }

    public int same(int function, int other) {
        if (!isFunction(function) || !isFunction(other)) {
            return NONE;
        }
        for (int cell = 0; cell < CELLS; cell++) {
            if (functions.values[function * CELLS + cell] != functions.values[other * CELLS + cell]) {
                return 0;
            }
        }
        return 1;
    }

    // ---- the order's elements ----

    public int about(int element, int what) {
        if (!order.has(element)) {
            return NONE;
        }
        switch (what) {
            case 0:
                return order.upTo(element);
            case 1:
                return order.from(element);
            case 2:
                return order.coveredBy[element];
            case 3:
                return order.covering[element];
            case 4:
                return order.heights[element];
            case 5:
                return mapping.ones[element] < 0 ? REFUSED : mapping.ones[element];
            default:
                return NONE;
        }
    }

    public int bound(int a, int b, int what) {
        if (!order.has(a) || !order.has(b)) {
            return NONE;
        }
        switch (what) {
            case 0:
                return order.least(order.from(a) & order.from(b));
            case 1:
                return order.greatest(order.upTo(a) & order.upTo(b));
            case 2:
                return order.between(a, b);
            default:
                return NONE;
        }
    }

    public int count(int what) {
        switch (what) {
            case 0:
                return order.size;
            case 1:
                return order.pairs(order.above);
            case 2:
                return order.pairs(order.coveredBy);
            case 3:
                return order.greatestHeight();
            case 4:
                return order.isGraded() ? 1 : 0;
            case 5:
                return order.isLattice() ? 1 : 0;
            case 6:
                return likeness.countTypes();
            case 7:
                return order.size + order.pairs(order.above);
            case 8:
                return history.size;
            case 9:
                return tape.size;
            case 10:
                return keptShelves;
            case 11:
                return order.without(order.beneath);
            case 12:
                return order.without(order.above);
            case 13:
                return reducedFunctions();
            case 14:
                return setCounts.widest();
            default:
                return NONE;
        }
    }

    // ---- chains, Moebius values, sets ----

    public long chains(int a, int b, int k) {
        if (!order.has(a) || !order.has(b) || k < COVERING_CHAINS || k > LONGEST_CHAIN) {
            return NONE;
        }
        if (k == NONE) {
            return paths.chainsOfAll(a, b, order.beneath, 1);
        }
        if (k == COVERING_CHAINS) {
            return paths.chainsOfAll(a, b, order.covering, 1);
        }
        return paths.chainsOf(a, b, k);
    }

    public long moebius(int a, int b, int way) {
        if (!order.atMost(a, b)) {
            return NO_VALUE;
        }
        switch (way) {
            case 0:
                order.moebiusFrom(a, moebiusRow);
                return moebiusRow[b];
            case 1:
                order.moebiusTo(b, moebiusRow);
                return moebiusRow[a];
            case 2:
                return paths.chainsOfAll(a, b, order.beneath, -1);
            case 3:
                return order.hasJoinsWithin(order.between(a, b)) ? paths.crossCut(a, b) : NO_VALUE;
            default:
                return NO_VALUE;
        }
    }

    public long multichains(int a, int b, int n) {
        if (!order.atMost(a, b) || n < 0 || n > MOST_ZETA_POWER) {
            return NONE;
        }
        return paths.multichainsOf(a, b, n);
    }

    public long sets(int what, int n) {
        switch (what) {
            case 0:
                return setCounts.downSets();
            case 1:
                return setCounts.extensions();
            case 2:
                return n >= 0 && n <= order.size ? setCounts.downSetsOf(n) : NONE;
            default:
                return NONE;
        }
    }

    // ---- intervals that are alike ----

    public int type(int a, int b) {
        likeness.learn();
        return order.atMost(a, b) ? likeness.typeOf(a, b) : NONE;
    }

    public int split(int t, int r, int s) {
        likeness.learn();
        if (!likeness.hasType(t) || !likeness.hasType(r) || !likeness.hasType(s)) {
            return NONE;
        }
        return likeness.splits(t, r, s);
    }

    public long reduced(int function, int t) {
        likeness.learn();
        if (!isFunction(function) || !likeness.hasType(t) || !isReduced(function)) {
            return NO_VALUE;
        }
        return functions.at(function, likeness.firstLow[t], likeness.firstHigh[t]);
    }

    /** The types must be known. */
    private boolean isReduced(int function) {
        for (int a = 0; a < order.size; a++) {
            for (int b = 0; b < order.size; b++) {
                if (order.atMost(a, b)) {
                    int t = likeness.typeOf(a, b);
                    long first = functions.at(function, likeness.firstLow[t], likeness.firstHigh[t]);
                    if (functions.at(function, a, b) != first) {
                        return false;
                    }
                }
            }
        }
        return true;
    }

    private int reducedFunctions() {
        likeness.learn();
        int bits = 0;
        for (int function = 0; function < MOST_FUNCTIONS; function++) {
            if (isReduced(function)) {
                bits |= 1 << function;
            }
        }
        return bits;
    }

    // ---- sums told on elements ----

    public int data(int element, long value) {
        if (!order.has(element)) {
            return NONE;
        }
        if (facts[element] == value) {
            return REFUSED;
        }
        remember();
        facts[element] = value;
        return 1;
    }

    public long summed(int element, int how) {
        if (!order.has(element) || how < 0 || how > 1) {
            return NO_VALUE;
        }
        int set = how == 0 ? order.upTo(element) : order.from(element);
        sum.begin();
        for (int x = 0; x < order.size; x++) {
            if ((set >> x & 1) == 1) {
                sum.add(facts[x]);
            }
        }
        return sum.over ? NO_VALUE : sum.total;
    }

    public long gotBack(int element, int how) {
        if (!order.has(element) || how < 0 || how > 1) {
            return NO_VALUE;
        }
        int set;
        if (how == 0) {
            set = order.upTo(element);
            order.moebiusTo(element, moebiusRow);
        } else {
            set = order.from(element);
            order.moebiusFrom(element, moebiusRow);
        }
        sum.begin();
        for (int x = 0; x < order.size; x++) {
            if ((set >> x & 1) == 1) {
                sum.addProduct(facts[x], moebiusRow[x]);
            }
        }
        return sum.over ? NO_VALUE : sum.total;
    }

    public long coefficient(int i) {
        int least = order.least(order.all());
        int greatest = order.greatestHeight();
        if (i < 0 || i > greatest || least < 0 || !order.isGraded()) {
            return NO_VALUE;
        }
        int height = greatest - i;
        order.moebiusFrom(least, moebiusRow);
        long total = 0;
        for (int x = 0; x < order.size; x++) {
            if (order.heights[x] == height) {
                total += moebiusRow[x];
            }
        }
        return total;
    }

    // ---- the map to the order that is kept on shelf 0 ----

    public int point(int x, int y) {
        if (!order.has(x) || !isThere(y)) {
            return NONE;
        }
        if (mapping.ones[x] == y) {
            return REFUSED;
        }
        remember();
        mapping.ones[x] = y;
        return 1;
    }

    private boolean isThere(int y) {
        return isKept(0) && shelves[0].has(y);
    }

    public int mapped(int what) {
        if (what < 0 || what > 2) {
            return NONE;
        }
        boolean whole = mapping.isWhole();
        if (what == 0) {
            return whole ? 1 : 0;
        }
        if (!whole) {
            return REFUSED;
        }
        boolean holds = what == 1 ? mapping.isMonotone() : mapping.isJoined();
        return holds ? 1 : 0;
    }

    public int adjoint(int y) {
        if (!isThere(y) || !mapping.isWhole()) {
            return NONE;
        }
        return mapping.adjointOf(y);
    }

    public long side(int p, int q, int what) {
        if (!order.has(p) || !isThere(q) || what < 0 || what > 1 || !mapping.isWhole()) {
            return NO_VALUE;
        }
        if (what == 0) {
            return mapping.sideHere(p, q, moebiusRow);
        }
        return mapping.isJoined() ? mapping.sideThere(p, q, moebiusRow) : NO_VALUE;
    }

    /** Bytes that wait to be told as an order. */
    private static final class Tape {
        private static final int ENDED = -1;

        final byte[] bytes = new byte[MOST_BYTES];
        int size;

        void append(int number) {
            for (int shift = 24; shift >= 0; shift -= 8) {
                if (size < MOST_BYTES) {
                    bytes[size] = (byte) (number >> shift);
                    size++;
                }
            }
        }

        /** The byte as 0 to 255; ENDED where there is none. */
        int at(int place) {
            return place >= 0 && place < size ? bytes[place] & 255 : ENDED;
        }

        boolean isDigitAt(int place) {
            int sign = at(place);
            return sign >= '0' && sign <= '9';
        }

        boolean isLetterAt(int place) {
            int sign = at(place);
            return sign >= 'a' && sign <= 'z';
        }
    }

    /** Reads the tape into a draft of an order, up to the first place that is wrong. */
    private static final class Reader {
        private static final int CANNOT_STAND = 1;
        private static final int NOT_AS_TOLD = 2;
        private static final int BELOW_ITSELF = 3;
        private static final int FREE = 0;
        private static final int CHAIN = 1;
        private static final int CUBE = 2;
        private static final int DIVISORS = 3;
        private static final int PARTS = 4;
        private static final int KIND_WORDS = 5;
        /** Beyond all numbers that a text may have: digits behind it change nothing. */
        private static final int LARGE = 100000;

        private final Tape tape;
        private final Order draft;
        private final int[] codes = new int[MOST_ELEMENTS];
        private int place;
        private int begun;
        private int fault;

        Reader(Tape tape, Order draft) {
            this.tape = tape;
            this.draft = draft;
        }

        /** The fault of the text, or 0 with the order in the draft. */
        int read() {
            place = 0;
            fault = 0;
            int kind = readKind();
            if (fault == 0) {
                int number = readNumber();
                if (fault == 0 && !build(kind, number)) {
                    blame(begun, NOT_AS_TOLD);
                }
            }
            if (fault == 0) {
                readLines();
            }
            return fault;
        }

        private void blame(int where, int what) {
            if (fault == 0) {
                fault = 8 * where + what;
            }
        }

        private void skipBlanks() {
            while (place < tape.size && tape.at(place) == ' ') {
                place++;
            }
        }

        private int readKind() {
            skipBlanks();
            begun = place;
            while (place < tape.size && tape.isLetterAt(place)) {
                place++;
            }
            for (int kind = 0; kind < KIND_WORDS; kind++) {
                if (isWord(kindWord(kind))) {
                    return kind;
                }
            }
            blame(begun, CANNOT_STAND);
            return NONE;
        }

        private static String kindWord(int kind) {
            switch (kind) {
                case FREE:
                    return "free";
                case CHAIN:
                    return "chain";
                case CUBE:
                    return "cube";
                case DIVISORS:
                    return "divisors";
                default:
                    return "parts";
            }
        }

        private boolean isWord(String word) {
            if (place - begun != word.length()) {
                return false;
            }
            for (int i = 0; i < word.length(); i++) {
                if (tape.at(begun + i) != word.charAt(i)) {
                    return false;
                }
            }
            return true;
        }

        private int readNumber() {
            skipBlanks();
            begun = place;
            int number = 0;
            while (place < tape.size && tape.isDigitAt(place)) {
                number = Math.min(LARGE, 10 * number + tape.at(place) - '0');
                place++;
            }
            if (place == begun) {
                blame(place, CANNOT_STAND);
            }
            return number;
        }

        private void readLines() {
            for (int lines = 0; lines <= MOST_BYTES && fault == 0; lines++) {
                skipBlanks();
                if (place >= tape.size) {
                    return;
                }
                readSign(';');
                readLine();
            }
        }

        private void readSign(char sign) {
            skipBlanks();
            if (tape.at(place) != sign) {
                blame(place, CANNOT_STAND);
            } else {
                place++;
            }
        }

        private void readLine() {
            int low = readElement();
            boolean goesOn = true;
            for (int signs = 0; signs <= MOST_BYTES && goesOn && fault == 0; signs++) {
                readSign('<');
                int high = readElement();
                if (fault == 0 && draft.atMost(high, low)) {
                    blame(begun, BELOW_ITSELF);
                }
                if (fault == 0) {
                    draft.link(low, high);
                    low = high;
                    skipBlanks();
                    goesOn = tape.at(place) == '<';
                }
            }
        }

        private int readElement() {
            if (fault != 0) {
                return NONE;
            }
            int element = readNumber();
            if (fault == 0 && !draft.has(element)) {
                blame(begun, NOT_AS_TOLD);
            }
            return element;
        }

        /** Whether there is such an order; then it is the draft. */
        private boolean build(int kind, int number) {
            switch (kind) {
                case FREE:
                case CHAIN:
                    return number >= 1 && number <= MOST_ELEMENTS && buildRow(kind, number);
                case CUBE:
                    return number >= 0 && number <= 4 && buildRow(kind, 1 << number);
                case DIVISORS:
                    return number >= 1 && number <= 999 && buildDivisors(number);
                case PARTS:
                    return number >= 1 && number <= 4 && buildParts(number);
                default:
                    return false;
            }
        }

        private boolean buildRow(int kind, int size) {
            for (int k = 0; k < size && k < MOST_ELEMENTS; k++) {
                codes[k] = k;
            }
            return buildOfCodes(kind, size);
        }

        private boolean buildDivisors(int number) {
            int size = 0;
            for (int divisor = 1; divisor <= number; divisor++) {
                if (number % divisor == 0) {
                    if (size >= MOST_ELEMENTS) {
                        return false;
                    }
                    codes[size] = divisor;
                    size++;
                }
            }
            return buildOfCodes(DIVISORS, size);
        }

        private boolean buildParts(int things) {
            int size = 0;
            for (int code = 0; code < 1 << 2 * things; code++) {
                if (isParting(code, things) && size < MOST_ELEMENTS) {
                    codes[size] = code;
                    size++;
                }
            }
            return buildOfCodes(PARTS, size);
        }

        /** A code has two bits for each thing, the first thing's highest, so that rising codes are rising rows. */
        private static boolean isParting(int code, int things) {
            int used = 0;
            for (int shift = 2 * things - 2; shift >= 0; shift -= 2) {
                int part = code >> shift & 3;
                if (part > used) {
                    return false;
                }
                if (part == used) {
                    used++;
                }
            }
            return true;
        }

        private boolean buildOfCodes(int kind, int size) {
            if (size < 1 || size > MOST_ELEMENTS) {
                return false;
            }
            draft.begin(size);
            for (int x = 0; x < size; x++) {
                for (int y = 0; y < size; y++) {
                    if (x != y && codeAtMost(kind, codes[x], codes[y])) {
                        draft.above[x] |= 1 << y;
                    }
                }
            }
            return true;
        }

        private static boolean codeAtMost(int kind, int low, int high) {
            switch (kind) {
                case CHAIN:
                    return low <= high;
                case CUBE:
                    return (low & ~high) == 0;
                case DIVISORS:
                    return low > 0 && high % low == 0;
                case PARTS:
                    return isFiner(low, high);
                default:
                    return false;
            }
        }

        /** Things of one part of the low one are of one part of the high one, too. */
        private static boolean isFiner(int low, int high) {
            for (int one = 0; one < 8; one += 2) {
                for (int two = 0; two < one; two += 2) {
                    boolean together = (low >> one & 3) == (low >> two & 3);
                    if (together && (high >> one & 3) != (high >> two & 3)) {
                        return false;
                    }
                }
            }
            return true;
        }
    }

    /** An order. All but size and above is derived from these two. */
    private static final class Order {
        int size = 1;
        final int[] above = new int[MOST_ELEMENTS];
        final int[] beneath = new int[MOST_ELEMENTS];
        final int[] coveredBy = new int[MOST_ELEMENTS];
        final int[] covering = new int[MOST_ELEMENTS];
        final int[] heights = new int[MOST_ELEMENTS];
        /** All elements, each behind all below it. */
        final int[] row = new int[MOST_ELEMENTS];

        void begin(int elements) {
            size = Math.max(1, Math.min(elements, MOST_ELEMENTS));
            Arrays.fill(above, 0);
        }

        void copy(int elements, int[] otherAbove) {
            begin(elements);
            for (int x = 0; x < size && x < otherAbove.length; x++) {
                above[x] = otherAbove[x];
            }
        }

        boolean isTold(int elements, int[] otherAbove) {
            if (size != elements) {
                return false;
            }
            for (int x = 0; x < size && x < otherAbove.length; x++) {
                if (above[x] != otherAbove[x]) {
                    return false;
                }
            }
            return true;
        }

        /** What is at most a lies below all that b is at most from now on. */
        void link(int a, int b) {
            int more = from(b);
            for (int x = 0; x < size; x++) {
                if (atMost(x, a)) {
                    above[x] |= more;
                }
            }
        }

        void becomeTurned(Order other) {
            begin(other.size);
            System.arraycopy(other.beneath, 0, above, 0, MOST_ELEMENTS);
        }

        void becomePart(Order other, int set) {
            begin(Integer.bitCount(set & other.all()));
            int low = 0;
            for (int x = 0; x < other.size; x++) {
                if ((set >> x & 1) == 1) {
                    above[low] = packed(other.above[x], set, other.size);
                    low++;
                }
            }
        }

        /** Bits of a set that lie in another set, without the gaps between that one's bits. */
        static int packed(int bits, int set, int width) {
            int result = 0;
            int next = 0;
            for (int x = 0; x < width; x++) {
                if ((set >> x & 1) == 1) {
                    result |= (bits >> x & 1) << next;
                    next++;
                }
            }
            return result;
        }

        void becomeBoth(Order low, Order high, boolean upon) {
            begin(low.size + high.size);
            int highSet = upon ? high.all() << low.size : 0;
            for (int x = 0; x < low.size; x++) {
                above[x] = low.above[x] | highSet;
            }
            for (int y = 0; y < high.size && low.size + y < MOST_ELEMENTS; y++) {
                above[low.size + y] = high.above[y] << low.size;
            }
        }

        void becomePairs(Order first, Order second) {
            begin(first.size * second.size);
            for (int x = 0; x < first.size; x++) {
                for (int y = 0; y < second.size; y++) {
                    int number = x * second.size + y;
                    if (number < MOST_ELEMENTS) {
                        above[number] = pairsFrom(first, second, x, y) & ~(1 << number);
                    }
                }
            }
        }

        private static int pairsFrom(Order first, Order second, int x, int y) {
            int set = 0;
            for (int z = 0; z < first.size; z++) {
                if (first.atMost(x, z)) {
                    set |= second.from(y) << z * second.size;
                }
            }
            return set;
        }

        void derive() {
            deriveBeneath();
            deriveCovers();
            deriveRow();
            deriveHeights();
        }

        private void deriveBeneath() {
            Arrays.fill(beneath, 0);
            for (int x = 0; x < size; x++) {
                for (int y = 0; y < size; y++) {
                    if ((above[x] >> y & 1) == 1) {
                        beneath[y] |= 1 << x;
                    }
                }
            }
        }

        private void deriveCovers() {
            Arrays.fill(coveredBy, 0);
            Arrays.fill(covering, 0);
            for (int x = 0; x < size; x++) {
                for (int y = 0; y < size; y++) {
                    if ((above[x] >> y & 1) == 1 && (above[x] & beneath[y]) == 0) {
                        coveredBy[x] |= 1 << y;
                        covering[y] |= 1 << x;
                    }
                }
            }
        }

        /** What lies below another one has fewer below it, so rows by that number do. */
        private void deriveRow() {
            int filled = 0;
            for (int many = 0; many < size; many++) {
                for (int x = 0; x < size; x++) {
                    if (Integer.bitCount(beneath[x]) == many && filled < MOST_ELEMENTS) {
                        row[filled] = x;
                        filled++;
                    }
                }
            }
        }

        private void deriveHeights() {
            for (int i = 0; i < size; i++) {
                int x = row[i];
                int height = 0;
                for (int y = 0; y < size; y++) {
                    if ((beneath[x] >> y & 1) == 1) {
                        height = Math.max(height, heights[y] + 1);
                    }
                }
                heights[x] = height;
            }
        }

        int all() {
            return (1 << size) - 1;
        }

        boolean has(int element) {
            return element >= 0 && element < size;
        }

        boolean isBelow(int a, int b) {
            return has(a) && has(b) && (above[a] >> b & 1) == 1;
        }

        boolean atMost(int a, int b) {
            return has(a) && (a == b || isBelow(a, b));
        }

        /** All that an element is at most. */
        int from(int a) {
            return has(a) ? above[a] | 1 << a : 0;
        }

        /** All that are at most an element. */
        int upTo(int a) {
            return has(a) ? beneath[a] | 1 << a : 0;
        }

        /** The interval's elements; none, if there is no such interval. */
        int between(int a, int b) {
            return from(a) & upTo(b);
        }

        int pairs(int[] sets) {
            int many = 0;
            for (int x = 0; x < size && x < sets.length; x++) {
                many += Integer.bitCount(sets[x]);
            }
            return many;
        }

        /** The elements whose set is empty. */
        int without(int[] sets) {
            int bits = 0;
            for (int x = 0; x < size && x < sets.length; x++) {
                if (sets[x] == 0) {
                    bits |= 1 << x;
                }
            }
            return bits;
        }

        /** The one of a set that is at most all of it. */
        int least(int set) {
            for (int x = 0; x < size; x++) {
                if ((set >> x & 1) == 1 && (set & ~from(x)) == 0) {
                    return x;
                }
            }
            return REFUSED;
        }

        /** The one of a set that all of it are at most. */
        int greatest(int set) {
            for (int x = 0; x < size; x++) {
                if ((set >> x & 1) == 1 && (set & ~upTo(x)) == 0) {
                    return x;
                }
            }
            return REFUSED;
        }

        boolean hasJoinsWithin(int set) {
            for (int x = 0; x < size; x++) {
                for (int y = 0; y < x; y++) {
                    boolean both = (set >> x & 1) == 1 && (set >> y & 1) == 1;
                    if (both && least(set & from(x) & from(y)) < 0) {
                        return false;
                    }
                }
            }
            return true;
        }

        boolean isLattice() {
            for (int x = 0; x < size; x++) {
                for (int y = 0; y < x; y++) {
                    if (greatest(upTo(x) & upTo(y)) < 0) {
                        return false;
                    }
                }
            }
            return hasJoinsWithin(all());
        }

        int greatestHeight() {
            int height = 0;
            for (int x = 0; x < size; x++) {
                height = Math.max(height, heights[x]);
            }
            return height;
        }

        boolean isGraded() {
            for (int x = 0; x < size; x++) {
                for (int y = 0; y < size; y++) {
                    if ((covering[x] >> y & 1) == 1 && heights[y] + 1 != heights[x]) {
                        return false;
                    }
                }
            }
            return true;
        }

        /** Moebius values of all intervals that begin with a; 0 at the other elements. */
        void moebiusFrom(int a, long[] out) {
            for (int i = 0; i < size; i++) {
                int x = row[i];
                out[x] = x == a ? 1 : -sumOf(out, from(a) & beneath[x]);
            }
        }

        /** Moebius values of all intervals that end with b; 0 at the other elements. */
        void moebiusTo(int b, long[] out) {
            for (int i = size - 1; i >= 0; i--) {
                int x = row[i];
                out[x] = x == b ? 1 : -sumOf(out, upTo(b) & above[x]);
            }
        }

        private long sumOf(long[] out, int set) {
            long total = 0;
            for (int x = 0; x < size && x < out.length; x++) {
                if ((set >> x & 1) == 1) {
                    total += out[x];
                }
            }
            return total;
        }
    }

    /** A sum that knows whether anything went beyond 64 bits since it was begun. */
    private static final class Sum {
        long total;
        boolean over;

        void begin() {
            total = 0;
            over = false;
        }

        void add(long more) {
            long result = total + more;
            if (((total ^ result) & (more ^ result)) < 0) {
                over = true;
            }
            total = result;
        }

        void subtract(long less) {
            long result = total - less;
            if (((total ^ less) & (total ^ result)) < 0) {
                over = true;
            }
            total = result;
        }

        void addProduct(long one, long two) {
            if (isTooLarge(one, two)) {
                over = true;
            }
            add(one * two);
        }

        private static boolean isTooLarge(long one, long two) {
            if (one == (int) one && two == (int) two || two == 0) {
                return false;
            }
            if (two == -1) {
                return one == Long.MIN_VALUE;
            }
            return one * two / two != one;
        }
    }

    /** The functions' values. What is reckoned waits in a row of its own, for it may still be refused. */
    private static final class Functions {
        final long[] values = new long[MOST_FUNCTIONS * CELLS];
        private final long[] reckoned = new long[CELLS];
        private final long[] power = new long[CELLS];
        private final long[] moebiusRow = new long[MOST_ELEMENTS];
        private final Order order;
        private final Sum sum;

        Functions(Order order, Sum sum) {
            this.order = order;
            this.sum = sum;
        }

        static int cell(int function, int a, int b) {
            return function * CELLS + a * MOST_ELEMENTS + b;
        }

        long at(int function, int a, int b) {
            return values[cell(function, a, b)];
        }

        void clear() {
            Arrays.fill(values, 0L);
        }

        void store(int function) {
            System.arraycopy(reckoned, 0, values, function * CELLS, CELLS);
        }

        void reckonKind(int kind) {
            Arrays.fill(reckoned, 0L);
            for (int a = 0; a < order.size; a++) {
                if (kind == 3) {
                    order.moebiusFrom(a, moebiusRow);
                }
                for (int b = 0; b < order.size; b++) {
                    if (order.atMost(a, b)) {
                        reckoned[cell(0, a, b)] = kind == 3 ? moebiusRow[b] : ofKind(kind, a, b);
                    }
                }
            }
        }

        private long ofKind(int kind, int a, int b) {
            switch (kind) {
                case 1:
                    return a == b ? 1 : 0;
                case 2:
                    return 1;
                case 4:
                    return a == b ? 0 : 1;
                case 5:
                    return order.coveredBy[a] >> b & 1;
                case 6:
                    return Integer.bitCount(order.between(a, b));
                default:
                    return 0;
            }
        }

        /** Value by value: the sum (how 0), the difference (1), the product (3). */
        void reckonEach(int x, int y, int how) {
            for (int i = 0; i < CELLS; i++) {
                long one = values[x * CELLS + i];
                long two = values[y * CELLS + i];
                sum.total = 0;
                if (how == 3) {
                    sum.addProduct(one, two);
                } else {
                    sum.add(one);
                    if (how == 0) {
                        sum.add(two);
                    } else {
                        sum.subtract(two);
                    }
                }
                reckoned[i] = sum.total;
            }
        }

        /** A function whose values begin at a place of a row, times y. */
        void reckonProduct(long[] left, int leftBegins, int y) {
            Arrays.fill(reckoned, 0L);
            for (int a = 0; a < order.size; a++) {
                for (int b = 0; b < order.size; b++) {
                    int set = order.between(a, b);
                    sum.total = 0;
                    for (int x = 0; x < order.size; x++) {
                        if ((set >> x & 1) == 1) {
                            sum.addProduct(left[leftBegins + cell(0, a, x)], at(y, x, b));
                        }
                    }
                    reckoned[cell(0, a, b)] = sum.total;
                }
            }
        }

        void reckonPower(int x, int n) {
            reckonKind(1);
            for (int times = 0; times < n && !sum.over; times++) {
                System.arraycopy(reckoned, 0, power, 0, CELLS);
                reckonProduct(power, 0, x);
            }
        }

        boolean isInvertible(int x) {
            for (int a = 0; a < order.size; a++) {
                long own = at(x, a, a);
                if (own != 1 && own != -1) {
                    return false;
                }
            }
            return true;
        }

        void reckonInverse(int x) {
            Arrays.fill(reckoned, 0L);
            for (int b = 0; b < order.size; b++) {
                for (int i = order.size - 1; i >= 0; i--) {
                    int a = order.row[i];
                    if (a == b) {
                        reckoned[cell(0, a, b)] = at(x, a, a);
                    } else if (order.isBelow(a, b)) {
                        reckoned[cell(0, a, b)] = inverseAt(x, a, b);
                    }
                }
            }
        }

        /** Needs the inverse for all intervals that end with b and begin above a. */
        private long inverseAt(int x, int a, int b) {
            int set = order.above[a] & order.upTo(b);
            sum.total = 0;
            for (int y = 0; y < order.size; y++) {
                if ((set >> y & 1) == 1) {
                    sum.addProduct(at(x, a, y), reckoned[cell(0, y, b)]);
                }
            }
            long reached = sum.total;
            sum.total = 0;
            sum.addProduct(-at(x, a, a), reached);
            return sum.total;
        }
    }

    /** Counts rows of elements from one to another one, step by step. */
    private static final class Paths {
        private final Order order;
        private final long[] now = new long[MOST_ELEMENTS];
        private final long[] next = new long[MOST_ELEMENTS];

        Paths(Order order) {
            this.order = order;
        }

        private void start(int a) {
            Arrays.fill(now, 0L);
            now[a] = 1;
        }

        /** Rows go on from each of an element's sources to it; with stays, from it to itself too. */
        private void step(int[] sources, boolean stays) {
            for (int x = 0; x < order.size; x++) {
                long total = stays ? now[x] : 0;
                for (int y = 0; y < order.size; y++) {
                    if ((sources[x] >> y & 1) == 1) {
                        total += now[y];
                    }
                }
                next[x] = total;
            }
            System.arraycopy(next, 0, now, 0, MOST_ELEMENTS);
        }

        long chainsOf(int a, int b, int k) {
            start(a);
            for (int steps = 0; steps < k; steps++) {
                step(order.beneath, false);
            }
            return now[b];
        }

        /** Chains of every length, each time times the sign of one step for each step. */
        long chainsOfAll(int a, int b, int[] sources, int stepSign) {
            start(a);
            long total = now[b];
            long sign = 1;
            for (int steps = 1; steps < order.size; steps++) {
                step(sources, false);
                sign *= stepSign;
                total += sign * now[b];
            }
            return total;
        }

        long multichainsOf(int a, int b, int n) {
            start(a);
            for (int steps = 0; steps < n; steps++) {
                step(order.beneath, true);
            }
            return now[b];
        }

        /**
         * For each element: sets of atoms of which it is the join, even less odd. Atom by atom, because there are
         * far fewer joins than sets. The interval must have all joins.
         */
        long crossCut(int a, int b) {
            int set = order.between(a, b);
            int atoms = order.coveredBy[a] & set;
            start(a);
            for (int atom = 0; atom < order.size; atom++) {
                if ((atoms >> atom & 1) == 1) {
                    takeAtom(atom, set);
                }
            }
            return now[b];
        }

        private void takeAtom(int atom, int set) {
            System.arraycopy(now, 0, next, 0, MOST_ELEMENTS);
            for (int x = 0; x < order.size; x++) {
                if ((set >> x & 1) == 1) {
                    int join = order.least(set & order.from(x) & order.from(atom));
                    if (join >= 0) {
                        next[join] -= now[x];
                    }
                }
            }
            System.arraycopy(next, 0, now, 0, MOST_ELEMENTS);
        }
    }

    /** The types of intervals. Whoever asks for them calls learn first, so that they are found when first needed. */
    private static final class Likeness {
        final int[] firstLow = new int[MOST_INTERVALS];
        final int[] firstHigh = new int[MOST_INTERVALS];
        private final Order order;
        private final int[] firstMark = new int[MOST_INTERVALS];
        private final int[] types = new int[CELLS];
        private final int[] counts = new int[MOST_ELEMENTS];
        private final int[] marks = new int[MOST_ELEMENTS];
        private final int[] otherMarks = new int[MOST_ELEMENTS];
        private final int[] line = new int[MOST_ELEMENTS];
        private final int[] partners = new int[MOST_ELEMENTS];
        private int lineSize;
        private int size;
        private boolean known;

        Likeness(Order order) {
            this.order = order;
        }

        void forget() {
            known = false;
        }

        int countTypes() {
            learn();
            return size;
        }

        boolean hasType(int t) {
            return t >= 0 && t < size;
        }

        /** Of an interval that is there. */
        int typeOf(int a, int b) {
            return types[a * MOST_ELEMENTS + b];
        }

        int splits(int t, int r, int s) {
            int a = firstLow[t];
            int b = firstHigh[t];
            int set = order.between(a, b);
            int many = 0;
            for (int x = 0; x < order.size; x++) {
                if ((set >> x & 1) == 1 && typeOf(a, x) == r && typeOf(x, b) == s) {
                    many++;
                }
            }
            return many;
        }

        void learn() {
            if (known) {
                return;
            }
            known = true;
            size = 0;
            for (int a = 0; a < order.size; a++) {
                for (int b = 0; b < order.size; b++) {
                    if (order.atMost(a, b)) {
                        types[a * MOST_ELEMENTS + b] = findOrAdd(a, b);
                    }
                }
            }
        }

        private int findOrAdd(int a, int b) {
            int set = order.between(a, b);
            int mark = markAll(set, marks);
            for (int t = 0; t < size; t++) {
                if (firstMark[t] == mark && isAlike(set, order.between(firstLow[t], firstHigh[t]))) {
                    return t;
                }
            }
            int added = size;
            if (size < MOST_INTERVALS) {
                firstLow[size] = a;
                firstHigh[size] = b;
                firstMark[size] = mark;
                size++;
            }
            return added;
        }

        /** Marks that elements share with their partners in any interval that is alike; the answer is one of all. */
        private int markAll(int set, int[] out) {
            for (int x = 0; x < order.size; x++) {
                int low = Integer.bitCount(set & order.beneath[x]);
                int high = Integer.bitCount(set & order.above[x]);
                counts[x] = 1 + low + 17 * high;
            }
            int mark = 0;
            for (int x = 0; x < order.size; x++) {
                if ((set >> x & 1) == 1) {
                    int squaresLow = sumOfSquares(set & order.beneath[x]);
                    int squaresHigh = sumOfSquares(set & order.above[x]);
                    out[x] = counts[x] + 331 * squaresLow + 7919 * squaresHigh;
                    mark += out[x] * out[x] + 1;
                }
            }
            return mark;
        }

        private int sumOfSquares(int set) {
            int total = 0;
            for (int x = 0; x < order.size; x++) {
                if ((set >> x & 1) == 1) {
                    total += counts[x] * counts[x];
                }
            }
            return total;
        }

        /** The first set's marks must stand already. */
        private boolean isAlike(int set, int other) {
            if (Integer.bitCount(set) != Integer.bitCount(other)) {
                return false;
            }
            markAll(other, otherMarks);
            lineSize = 0;
            for (int i = 0; i < order.size; i++) {
                if ((set >> order.row[i] & 1) == 1 && lineSize < MOST_ELEMENTS) {
                    line[lineSize] = order.row[i];
                    lineSize++;
                }
            }
            return pairOff(0, set, other, other);
        }

        /**
         * Each element comes behind all below it, so those below it have partners already, and these must be just
         * the ones below its own partner.
         */
        private boolean pairOff(int depth, int set, int other, int unpaired) {
            if (depth >= lineSize || depth >= MOST_ELEMENTS) {
                return true;
            }
            int x = line[depth];
            int below = partnersOf(set & order.beneath[x]);
            for (int y = 0; y < order.size; y++) {
                boolean fits = (unpaired >> y & 1) == 1 && otherMarks[y] == marks[x];
                if (fits && (other & order.beneath[y]) == below) {
                    partners[x] = y;
                    if (pairOff(depth + 1, set, other, unpaired & ~(1 << y))) {
                        return true;
                    }
                }
            }
            return false;
        }

        private int partnersOf(int set) {
            int bits = 0;
            for (int x = 0; x < order.size; x++) {
                if ((set >> x & 1) == 1) {
                    bits |= 1 << partners[x];
                }
            }
            return bits;
        }
    }

    /** Down-sets, extensions and sets without any below another, counted when they are first asked for. */
    private static final class SetCounts {
        private final Order order;
        private final long[] bySize = new long[MOST_ELEMENTS + 1];
        private final long[] choices = new long[MOST_ELEMENTS + 1];
        private final int[] needs = new int[MOST_ELEMENTS];
        private long[] ways = new long[0];
        private boolean sizesKnown;
        private boolean extensionsKnown;
        private long extensionCount;

        SetCounts(Order order) {
            this.order = order;
        }

        void forget() {
            sizesKnown = false;
            extensionsKnown = false;
        }

        long downSets() {
            long total = 0;
            for (int n = 0; n <= order.size; n++) {
                total += downSetsOf(n);
            }
            return total;
        }

        long downSetsOf(int n) {
            if (!sizesKnown) {
                Arrays.fill(bySize, 0L);
                addDownSets(order.all(), 0, 0);
                sizesKnown = true;
            }
            return n >= 0 && n <= MOST_ELEMENTS ? bySize[n] : 0;
        }

        /** Those with the busiest element have all below it, those without it have none above it. */
        private void addDownSets(int set, int taken, int depth) {
            int busiest = busiestOf(set);
            if (busiest < 0 || depth > MOST_ELEMENTS) {
                int many = Integer.bitCount(set);
                fillChoices(many);
                for (int n = 0; n <= many && taken + n <= MOST_ELEMENTS; n++) {
                    bySize[taken + n] += choices[n];
                }
                return;
            }
            int low = set & order.upTo(busiest);
            addDownSets(set & ~low, taken + Integer.bitCount(low), depth + 1);
            addDownSets(set & ~order.from(busiest), taken, depth + 1);
        }

        /** How many sets of each size there are of so many. */
        private void fillChoices(int many) {
            Arrays.fill(choices, 0L);
            choices[0] = 1;
            for (int i = 0; i < many; i++) {
                for (int n = MOST_ELEMENTS; n > 0; n--) {
                    choices[n] += choices[n - 1];
                }
            }
        }

        private int comparable(int x) {
            return order.above[x] | order.beneath[x];
        }

        /** The one of a set with the most above or below it there; NONE, if none has any. */
        private int busiestOf(int set) {
            int busiest = NONE;
            int most = 0;
            for (int x = 0; x < order.size; x++) {
                int many = Integer.bitCount(set & comparable(x));
                if ((set >> x & 1) == 1 && many > most) {
                    busiest = x;
                    most = many;
                }
            }
            return busiest;
        }

        int widest() {
            return widestOf(order.all(), 0);
        }

        private int widestOf(int set, int depth) {
            int busiest = busiestOf(set);
            if (busiest < 0 || depth > MOST_ELEMENTS) {
                return Integer.bitCount(set);
            }
            int rest = set & ~(1 << busiest);
            int with = 1 + widestOf(rest & ~comparable(busiest), depth + 1);
            return Math.max(with, widestOf(rest, depth + 1));
        }

        long extensions() {
            if (!extensionsKnown) {
                extensionCount = extensionsOf(order.all(), 0);
                extensionsKnown = true;
            }
            return extensionCount;
        }

        /** Parts beside one another mix freely, parts above one another follow: only the rest is counted by sets. */
        private long extensionsOf(int set, int depth) {
            int many = Integer.bitCount(set);
            if (many < 2 || depth > MOST_ELEMENTS) {
                return 1;
            }
            int part = connected(set, true);
            if (part != set) {
                fillChoices(many);
                long mixed = choices[Integer.bitCount(part)];
                return mixed * extensionsOf(part, depth + 1) * extensionsOf(set & ~part, depth + 1);
            }
            part = connected(set, false);
            if (part != set) {
                return extensionsOf(part, depth + 1) * extensionsOf(set & ~part, depth + 1);
            }
            return extensionsByDownSets(set);
        }

        /** What the set's first element reaches by steps between comparable ones, or between others. */
        private int connected(int set, boolean byComparable) {
            int part = set & -set;
            for (int turn = 0; turn < MOST_ELEMENTS; turn++) {
                for (int x = 0; x < order.size; x++) {
                    if ((part >> x & 1) == 1) {
                        part |= set & (byComparable ? comparable(x) : ~comparable(x));
                    }
                }
            }
            return part;
        }

        private long extensionsByDownSets(int set) {
            int many = fillNeeds(set);
            int end = 1 << many;
            if (ways.length < end) {
                ways = new long[end];
            }
            for (int taken = 1; taken < end; taken++) {
                ways[taken] = 0;
            }
            ways[0] = 1;
            for (int taken = 0; taken < end; taken++) {
                for (int i = 0; i < many && ways[taken] != 0; i++) {
                    if ((taken >> i & 1) == 0 && (needs[i] & ~taken) == 0) {
                        ways[taken | 1 << i] += ways[taken];
                    }
                }
            }
            return ways[end - 1];
        }

        /** The set's elements in their row: the bits of those that must be taken ahead of each. */
        private int fillNeeds(int set) {
            int many = 0;
            for (int x = 0; x < order.size; x++) {
                if ((set >> x & 1) == 1) {
                    needs[many] = Order.packed(order.beneath[x], set, order.size);
                    many++;
                }
            }
            return many;
        }
    }

    /** The map: of each element here one there, NONE where it has none. */
    private static final class Mapping {
        final int[] ones = new int[MOST_ELEMENTS];
        private final Order here;
        private final Order there;

        Mapping(Order here, Order there) {
            this.here = here;
            this.there = there;
            Arrays.fill(ones, NONE);
        }

        void clear() {
            Arrays.fill(ones, NONE);
        }

        boolean isWhole() {
            for (int x = 0; x < here.size; x++) {
                if (ones[x] < 0) {
                    return false;
                }
            }
            return true;
        }

        boolean isMonotone() {
            for (int a = 0; a < here.size; a++) {
                for (int b = 0; b < here.size; b++) {
                    if (here.atMost(a, b) && !there.atMost(ones[a], ones[b])) {
                        return false;
                    }
                }
            }
            return true;
        }

        int adjointOf(int y) {
            int set = 0;
            for (int x = 0; x < here.size; x++) {
                if (there.atMost(ones[x], y)) {
                    set |= 1 << x;
                }
            }
            return here.greatest(set);
        }

        boolean isJoined() {
            for (int y = 0; y < there.size; y++) {
                if (adjointOf(y) < 0) {
                    return false;
                }
            }
            return isWhole();
        }

        long sideHere(int p, int q, long[] moebiusRow) {
            here.moebiusFrom(p, moebiusRow);
            long total = 0;
            for (int x = 0; x < here.size; x++) {
                if (ones[x] == q && here.atMost(p, x)) {
                    total += moebiusRow[x];
                }
            }
            return total;
        }

        long sideThere(int p, int q, long[] moebiusRow) {
            there.moebiusTo(q, moebiusRow);
            long total = 0;
            for (int y = 0; y < there.size; y++) {
                if (there.atMost(y, q) && adjointOf(y) == p) {
                    total += moebiusRow[y];
                }
            }
            return total;
        }
    }

    /** All that an act may change, as it was ahead of that act. */
    private static final class State {
        int size;
        int timesKept;
        final int[] above = new int[MOST_ELEMENTS];
        final long[] values = new long[MOST_FUNCTIONS * CELLS];
        final long[] facts = new long[MOST_ELEMENTS];
        final int[] ones = new int[MOST_ELEMENTS];
    }

    /** The states that can be come back to, in a ring: the oldest one makes room. */
    private static final class History {
        private final State[] ring = new State[MOST_UNDONE];
        private int next;
        int size;

        /** A state to be filled. Made when a place is first used, for many objects see few acts. */
        State push() {
            State state = ring[next];
            if (state == null) {
                state = new State();
                ring[next] = state;
            }
            next = (next + 1) % MOST_UNDONE;
            size = Math.min(size + 1, MOST_UNDONE);
            return state;
        }

        State pop() {
            if (size == 0) {
                return null;
            }
            size--;
            next = (next + MOST_UNDONE - 1) % MOST_UNDONE;
            return ring[next];
        }
    }
}
