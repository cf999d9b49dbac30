import java.util.Arrays;
import java.util.NoSuchElementException;

/** A circuit of wires and parts solved over time; ../shared/DOC.md tells the words in capitals. */
public final class StampedWires {
    public static final int NONE = -1;

    private static final int NODES = 9;
    private static final int MOST_PARTS = 16;
    private static final int MOST_UNKNOWNS = 24;
    private static final int MOST_VALUE = 9999;
    private static final int MOST_TICKS = 60;
    private static final int MOST_ROUNDS = 16;
    private static final int MOST_H = 64;

    private static final int RESISTOR = 0;
    private static final int CAPACITOR = 1;
    private static final int COIL = 2;
    private static final int VOLTAGE = 3;
    private static final int CURRENT = 4;
    private static final int JUNCTION = 5;
    private static final int SWITCH = 6;
    private static final int GAIN = 7;

    private static final int EULER = 0;
    private static final int TRAPEZOID = 1;
    private static final int GEAR = 2;

    private static final int SINGULAR = 1;
    private static final int STUCK = 2;
    private static final int WILD = 3;

    // Places of the counters: count(12) tells the first of them, count(19) the last.
    private static final int SOLVED = 0;
    private static final int ORDERS = 1;
    private static final int TRIES = 2;
    private static final int TAKEN = 3;
    private static final int REFUSED = 4;
    private static final int FORCED = 5;
    private static final int SPARED = 6;
    private static final int LIMITED = 7;
    private static final int COUNTERS = 8;

    // Which KINDS join NODES for LOOP, FLOATING and ISLANDS, as bits.
    private static final int RING_KINDS = 1 << VOLTAGE | 1 << COIL;
    private static final int WAY_KINDS = 1 << RESISTOR | 1 << COIL | 1 << VOLTAGE | 1 << JUNCTION | 1 << SWITCH;
    private static final int ALL_KINDS = 255;

    private final Board board;
    private final Groups groups;
    private final Course live;
    private final Course foretold;

    public StampedWires() {
        board = new Board();
        groups = new Groups();
        Solver solver = new Solver();
        live = new Course(board, solver);
        foretold = new Course(board, solver);
    }

    public int part(int kind, int a, int b, int n) {
        boolean good = within(kind, RESISTOR, GAIN) && isNode(a) && isNode(b) && a != b && within(n, 1, MOST_VALUE);
        if (!good || board.size >= MOST_PARTS) {
            return NONE;
        }
        board.add(kind, a, b, n);
        live.dropOrder();
        return board.size - 1;
    }

    public boolean value(int part, int n) {
        if (!isPart(part) || !within(n, 1, MOST_VALUE)) {
            return false;
        }
        board.parts[part].n = n;
        live.freshen();
        return true;
    }

    public boolean level(int part, int low, int high) {
        if (!hasWave(part) || !within(low, -999, 999) || !within(high, -999, 999)) {
            return false;
        }
        board.parts[part].low = low;
        board.parts[part].high = high;
        live.freshen();
        return true;
    }

    public boolean times(int part, int delay, int rise, int width, int period) {
        boolean good = hasWave(part) && within(delay, 0, 9999) && within(rise, 1, 999) && within(width, 0, 999);
        if (!good || period != 0 && !within(period, 2 * rise + width, 9999)) {
            return false;
        }
        board.parts[part].setTimes(delay, rise, width, period);
        live.freshen();
        return true;
    }

    public boolean control(int part, int c, int d) {
        if (!isPart(part) || board.parts[part].kind != GAIN || !isNode(c) || !isNode(d)) {
            return false;
        }
        board.parts[part].c = c;
        board.parts[part].d = d;
        board.number();
        live.dropOrder();
        return true;
    }

    public boolean method(int method) {
        if (!within(method, EULER, GEAR)) {
            return false;
        }
        live.scheme = method;
        return true;
    }

    public boolean tolerance(int n) {
        if (!within(n, 1, 1024)) {
            return false;
        }
        live.allowance = n;
        return true;
    }

    public int rest() {
        return live.findRest();
    }

    public int step() {
        return live.state.ready ? live.takeStep() : NONE;
    }

    public int run(int ticks) {
        if (!live.state.ready || !within(ticks, 1, MOST_TICKS)) {
            return NONE;
        }
        return live.goOn(ticks);
    }

    public int clear() {
        int were = board.size;
        board.reset();
        live.reset();
        return were;
    }

    public int volt(int node, int what) throws NoSuchElementException {
        if (!isNode(node) || !isHalf(what)) {
            throw new NoSuchElementException();
        }
        return half(live.voltageNow(node), what);
    }

    public int milli(int node) {
        return isNode(node) ? (int) (1000 * live.voltageNow(node)) : Integer.MIN_VALUE;
    }

    public int flow(int part, int what) throws NoSuchElementException {
        if (!live.state.ready || !isPart(part) || !isHalf(what)) {
            throw new NoSuchElementException();
        }
        return half(live.flowOf(part), what);
    }

    public int charge(int part, int what) throws NoSuchElementException {
        if (!live.state.ready || !isPart(part) || !board.parts[part].stores() || !isHalf(what)) {
            throw new NoSuchElementException();
        }
        return half(board.parts[part].strength() * live.state.last[part], what);
    }

    public int balance(int node, int what) throws NoSuchElementException {
        if (!live.state.ready || !isNode(node) || (board.used >> node & 1) == 0 || !isHalf(what)) {
            throw new NoSuchElementException();
        }
        return half(live.balanceOf(node), what);
    }

    public int wave(int part, int time, int what) throws NoSuchElementException {
        if (!hasWave(part) || !within(time, 0, 99999) || !isHalf(what)) {
            throw new NoSuchElementException();
        }
        return half(board.parts[part].waveAt(time), what);
    }

    public int breaks(int time, int i) {
        if (!within(time, 0, 9999) || !within(i, 0, 20)) {
            return NONE;
        }
        int found = board.firstBreak(time);
        for (int k = 0; k < i && found != NONE; k++) {
            found = board.firstBreak(found + 1);
        }
        return found;
    }

    public int told(int part, int what) {
        if (!isPart(part) || !within(what, 0, 12)) {
            return Integer.MIN_VALUE;
        }
        return what == 12 ? board.partUnknown[part] : board.parts[part].tell(what);
    }

    public int count(int what) {
        State state = live.state;
        switch (what) {
            case 0: return board.size;
            case 1: return board.unknowns;
            case 2: return board.used;
            case 3: return state.ready ? state.time : 0;
            case 4: return state.ready ? 1 : 0;
            case 5: return state.ready && state.fresh ? 1 : 0;
            case 6: return state.ready ? state.wanted : 1;
            case 7: return live.scheme;
            case 8: return live.allowance;
            case 9: return live.failed;
            case 10: return live.failedAt;
            case 11: return live.forcedPart;
            default: return within(what, 12, 19) ? live.counts[what - 12] : NONE;
        }
    }

    public int entry(int equation, int unknown, int what) throws NoSuchElementException {
        if (!live.rounds.equations.holds(equation, unknown) || !isHalf(what)) {
            throw new NoSuchElementException();
        }
        return half(live.rounds.equations.cells[equation * MOST_UNKNOWNS + unknown], what);
    }

    public int pivot(int k, int what) {
        Order order = live.rounds.order;
        if (!order.found || !within(k, 0, order.size - 1) || !isHalf(what)) {
            return NONE;
        }
        return what == 0 ? order.equations[k] : order.unknowns[k];
    }

    public int fills() {
        return live.rounds.order.found ? live.rounds.order.made : NONE;
    }

    public int loop() {
        return groups.rings(board);
    }

    public int floating() {
        return groups.loose(board);
    }

    public int islands() {
        return groups.apart(board);
    }

    public int ahead(int node, int ticks, int method, int what) throws NoSuchElementException {
        boolean good = live.state.ready && isNode(node) && within(ticks, 1, MOST_TICKS);
        if (!good || !within(method, NONE, GEAR) || !isHalf(what)) {
            throw new NoSuchElementException();
        }
        foretold.follow(live);
        if (method != NONE) {
            foretold.scheme = method;
        }
        if (foretold.goOn(ticks) < ticks) {
            throw new NoSuchElementException();
        }
        return half(foretold.voltageNow(node), what);
    }

    public int shift(int part, int node) {
        if (!isPart(part) || !isNode(node) || board.parts[part].n >= MOST_VALUE) {
            return -2;
        }
        foretold.follow(live);
        int fault = foretold.findRest();
        double as = foretold.voltageNow(node);
        // Both begin with the ORDER that there is, so the second follows the live one anew.
        foretold.follow(live);
        board.parts[part].n++;
        int otherFault = foretold.findRest();
        board.parts[part].n--;
        double would = foretold.voltageNow(node);
        if (fault != 0 || otherFault != 0) {
            return -2;
        }
        return would > as ? 1 : would < as ? -1 : 0;
    }

    public int steps(int ticks, int what) {
        if (!live.state.ready || !within(ticks, 1, MOST_TICKS) || !within(what, 0, 2)) {
            return NONE;
        }
        foretold.follow(live);
        if (foretold.goOn(ticks) < ticks) {
            return NONE;
        }
        if (what == 1) {
            return foretold.longest;
        }
        return foretold.counts[what == 0 ? TAKEN : REFUSED];
    }

    private boolean isPart(int part) {
        return within(part, 0, board.size - 1);
    }

    private boolean hasWave(int part) {
        return isPart(part) && board.parts[part].waves();
    }

    private static boolean isNode(int node) {
        return within(node, 0, NODES - 1);
    }

    private static boolean isHalf(int what) {
        return within(what, 0, 1);
    }

    private static boolean within(int x, int least, int most) {
        return x >= least && x <= most;
    }

    private static double sizeOf(double x) {
        return x < 0 ? -x : x;
    }

    private static int half(double x, int what) {
        long bits = bitsOf(x);
        return what == 0 ? (int) (bits >> 32) : (int) bits;
    }

    // The library's own function is not at hand (LANGUAGE.md, rule 4); halving and doubling are exact.
    private static long bitsOf(double x) {
        if (x == 0) {
            // A zero shows its sign by nothing but what it divides.
            return 1 / x < 0 ? Long.MIN_VALUE : 0;
        }
        double m = sizeOf(x);
        int exponent = 0;
        for (; m >= 2 && exponent < 1023; exponent++) {
            m = m / 2;
        }
        for (; m < 1 && exponent > -1022; exponent--) {
            m = m * 2;
        }
        // The leading 1 of the fraction carries into the exponent; a number too small to have one stays at exponent 0.
        long bits = ((long) (exponent + 1022) << 52) + (long) (m * 4503599627370496.0);
        return x < 0 ? bits | Long.MIN_VALUE : bits;
    }

    /** A PART as it was told, with its WAVE. */
    private static final class Part {
        int kind;
        int a;
        int b;
        int n;
        int c;
        int d;
        int low;
        int high;
        int delay;
        int rise;
        int width;
        int period;

        void set(int newKind, int newA, int newB, int newN) {
            kind = newKind;
            a = newA;
            b = newB;
            n = newN;
            c = 0;
            d = 0;
            low = 0;
            high = 0;
            setTimes(0, 1, 0, 0);
        }

        void setTimes(int newDelay, int newRise, int newWidth, int newPeriod) {
            delay = newDelay;
            rise = newRise;
            width = newWidth;
            period = newPeriod;
        }

        int tell(int what) {
            boolean silent = what >= 4 && what <= 9 && !waves();
            if (silent) {
                return 0;
            }
            switch (what) {
                case 0: return kind;
                case 1: return a;
                case 2: return b;
                case 3: return n;
                case 4: return low;
                case 5: return high;
                case 6: return delay;
                case 7: return rise;
                case 8: return width;
                case 9: return period;
                case 10: return c;
                default: return d;
            }
        }

        boolean waves() {
            return kind == VOLTAGE || kind == CURRENT || kind == SWITCH;
        }

        boolean stores() {
            return kind == CAPACITOR || kind == COIL;
        }

        boolean hasUnknown() {
            return kind == VOLTAGE || kind == COIL;
        }

        double waveAt(int t) {
            if (t < delay) {
                return low;
            }
            int u = t - delay;
            if (period > 0) {
                u = u % period;
            }
            if (u < rise) {
                return low + (double) ((high - low) * u) / rise;
            }
            if (u < rise + width) {
                return high;
            }
            if (u < 2 * rise + width) {
                return high - (double) ((high - low) * (u - rise - width)) / rise;
            }
            return low;
        }

        int breakFrom(int t) {
            int first = repeatFrom(delay, t);
            first = sooner(first, repeatFrom(delay + rise, t));
            first = sooner(first, repeatFrom(delay + rise + width, t));
            return sooner(first, repeatFrom(delay + 2 * rise + width, t));
        }

        int repeatFrom(int start, int t) {
            if (start >= t) {
                return start;
            }
            if (period < 1) {
                return NONE;
            }
            return start + (t - start + period - 1) / period * period;
        }

        static int sooner(int i, int j) {
            if (i == NONE || j == NONE) {
                return Math.max(i, j);
            }
            return Math.min(i, j);
        }

        /** C, L, K or M. */
        double strength() {
            if (kind == JUNCTION) {
                return n / 64.0;
            }
            return kind == GAIN ? n / 256.0 : n / 16.0;
        }

        /** G of a RESISTOR or a SWITCH. */
        double conductanceAt(int t) {
            if (kind == RESISTOR) {
                return 1.0 / n;
            }
            return waveAt(t) > 0 ? n / 64.0 : 1.0 / 65536.0;
        }

        /** g of a JUNCTION at its guess u. */
        double slopeAt(double u) {
            return u > 0 ? 2 * strength() * u : 0;
        }

        /** What the flow of a JUNCTION at its guess u has besides g * u. */
        double offsetAt(double u) {
            double k = strength();
            double g = 2 * k * u;
            return u > 0 ? k * u * u - g * u : 0;
        }
    }

    /** The PARTS, and how the UNKNOWNS are numbered by them. */
    private static final class Board {
        final Part[] parts = new Part[MOST_PARTS];
        final int[] nodeUnknown = new int[NODES];
        final int[] partUnknown = new int[MOST_PARTS];
        int size;
        int used;
        int unknowns;
        int junctions;

        Board() {
            for (int i = 0; i < MOST_PARTS; i++) {
                parts[i] = new Part();
            }
            Arrays.fill(nodeUnknown, NONE);
            Arrays.fill(partUnknown, NONE);
        }

        void add(int kind, int a, int b, int n) {
            if (size < MOST_PARTS) {
                parts[size].set(kind, a, b, n);
                size++;
                number();
            }
        }

        void reset() {
            size = 0;
            number();
        }

        void number() {
            used = usedNodes();
            unknowns = 0;
            junctions = 0;
            for (int node = 0; node < NODES; node++) {
                nodeUnknown[node] = (used >> node & 1) != 0 ? unknowns++ : NONE;
            }
            for (int i = 0; i < size; i++) {
                partUnknown[i] = parts[i].hasUnknown() ? unknowns++ : NONE;
                junctions += parts[i].kind == JUNCTION ? 1 : 0;
            }
        }

        int usedNodes() {
            int nodes = 0;
            for (int i = 0; i < size; i++) {
                Part part = parts[i];
                nodes |= 1 << part.a | 1 << part.b;
                if (part.kind == GAIN) {
                    nodes |= 1 << part.c | 1 << part.d;
                }
            }
            return nodes & ~1;
        }

        int firstBreak(int from) {
            int first = NONE;
            for (int i = 0; i < size; i++) {
                if (parts[i].waves()) {
                    first = Part.sooner(first, parts[i].breakFrom(from));
                }
            }
            return first;
        }

        double voltageOf(double[] x, int node) {
            int unknown = nodeUnknown[node];
            return unknown == NONE ? 0 : x[unknown];
        }

        double across(double[] x, int i) {
            return voltageOf(x, parts[i].a) - voltageOf(x, parts[i].b);
        }

        /** What a CAPACITOR or a COIL remembers: its voltage or its current. */
        double stored(double[] x, int i) {
            int unknown = partUnknown[i];
            return unknown == NONE ? across(x, i) : x[unknown];
        }
    }

    /** NODES joined to groups by some KINDS of PARTS. */
    private static final class Groups {
        final int[] group = new int[NODES];

        void join(Board board, int kinds, int without) {
            for (int node = 0; node < NODES; node++) {
                group[node] = node;
            }
            for (int i = 0; i < board.size; i++) {
                Part part = board.parts[i];
                if (i != without && (kinds >> part.kind & 1) != 0) {
                    merge(group[part.a], group[part.b]);
                }
            }
        }

        void merge(int kept, int gone) {
            for (int node = 0; node < NODES; node++) {
                if (group[node] == gone) {
                    group[node] = kept;
                }
            }
        }

        /** A PART lies on a ring if its ends hold together without it. */
        int rings(Board board) {
            int found = 0;
            for (int i = 0; i < board.size; i++) {
                Part part = board.parts[i];
                if (part.hasUnknown()) {
                    join(board, RING_KINDS, i);
                    found |= group[part.a] == group[part.b] ? 1 << i : 0;
                }
            }
            return found;
        }

        int loose(Board board) {
            join(board, WAY_KINDS, NONE);
            int found = 0;
            for (int node = 1; node < NODES; node++) {
                found |= group[node] != group[0] ? 1 << node : 0;
            }
            return found & board.used;
        }

        int apart(Board board) {
            join(board, ALL_KINDS, NONE);
            int seen = 0;
            for (int node = 0; node < NODES; node++) {
                if (node == 0 || (board.used >> node & 1) != 0) {
                    seen |= 1 << group[node];
                }
            }
            return Integer.bitCount(seen);
        }
    }

    /** ENTRIES and RIGHT sides; which ENTRIES are there stands as bits, by equation and by UNKNOWN. */
    private static final class Equations {
        final double[] cells = new double[MOST_UNKNOWNS * MOST_UNKNOWNS];
        final double[] right = new double[MOST_UNKNOWNS];
        final int[] inEquation = new int[MOST_UNKNOWNS];
        final int[] ofUnknown = new int[MOST_UNKNOWNS];
        int size;
        boolean stamped;

        void begin(int newSize) {
            size = newSize;
            stamped = true;
            Arrays.fill(cells, 0, size * MOST_UNKNOWNS, 0.0);
            Arrays.fill(right, 0.0);
            Arrays.fill(inEquation, 0);
            Arrays.fill(ofUnknown, 0);
        }

        void take(Equations other) {
            size = other.size;
            System.arraycopy(other.cells, 0, cells, 0, size * MOST_UNKNOWNS);
            System.arraycopy(other.right, 0, right, 0, size);
            System.arraycopy(other.inEquation, 0, inEquation, 0, size);
            System.arraycopy(other.ofUnknown, 0, ofUnknown, 0, size);
        }

        boolean holds(int equation, int unknown) {
            boolean known = stamped && within(equation, 0, size - 1) && within(unknown, 0, size - 1);
            return known && (inEquation[equation] >> unknown & 1) != 0;
        }

        /** The GROUND has no equation and is no UNKNOWN: NONE for either is left out. */
        void add(int equation, int unknown, double x) {
            if (equation != NONE && unknown != NONE) {
                cells[equation * MOST_UNKNOWNS + unknown] += x;
                inEquation[equation] |= 1 << unknown;
                ofUnknown[unknown] |= 1 << equation;
            }
        }

        void addRight(int equation, double x) {
            if (equation != NONE) {
                right[equation] += x;
            }
        }

        void addConductance(int a, int b, double g) {
            add(a, a, g);
            add(a, b, -g);
            add(b, a, -g);
            add(b, b, g);
        }

        void addFlow(int a, int b, double j) {
            addRight(a, -j);
            addRight(b, j);
        }

        void addBranch(int a, int b, int i) {
            add(a, i, 1);
            add(b, i, -1);
            add(i, a, 1);
            add(i, b, -1);
        }
    }

    /** The ORDER of pivots, if there is one, with its FILLS. */
    private static final class Order {
        final int[] equations = new int[MOST_UNKNOWNS];
        final int[] unknowns = new int[MOST_UNKNOWNS];
        int size;
        int made;
        boolean found;

        void take(Order other) {
            System.arraycopy(other.equations, 0, equations, 0, MOST_UNKNOWNS);
            System.arraycopy(other.unknowns, 0, unknowns, 0, MOST_UNKNOWNS);
            size = other.size;
            made = other.made;
            found = other.found;
        }
    }

    /** Does what SOLVED says, on a copy of the EQUATIONS so that they stay as stamped. */
    private static final class Solver {
        final Equations work = new Equations();
        int equationsLeft;
        int unknownsLeft;
        int made;
        int pivotEquation;
        int pivotUnknown;
        boolean anew;
        int at;

        int solve(Equations stamped, Order order, double[] x) {
            anew = false;
            if (!order.found || !keeps(stamped, order)) {
                search(stamped, order);
                anew = order.found;
            }
            if (!order.found) {
                at = Integer.numberOfTrailingZeros(equationsLeft);
                return SINGULAR;
            }
            substitute(order, x);
            return seekWild(x);
        }

        void load(Equations stamped) {
            work.take(stamped);
            equationsLeft = (1 << work.size) - 1;
            unknownsLeft = equationsLeft;
            made = 0;
        }

        boolean keeps(Equations stamped, Order order) {
            load(stamped);
            for (int k = 0; k < order.size; k++) {
                int p = order.equations[k];
                int q = order.unknowns[k];
                if (!serves(p, q)) {
                    return false;
                }
                eliminate(p, q);
            }
            return order.size == work.size;
        }

        boolean serves(int p, int q) {
            double size = sizeOf(work.cells[p * MOST_UNKNOWNS + q]);
            boolean there = (work.inEquation[p] >> q & 1) != 0;
            return there && size >= 1 / 1099511627776.0 && size >= greatest(p) / 4096;
        }

        void search(Equations stamped, Order order) {
            load(stamped);
            order.found = false;
            for (int k = 0; k < work.size; k++) {
                if (!choose()) {
                    return;
                }
                order.equations[k] = pivotEquation;
                order.unknowns[k] = pivotUnknown;
                eliminate(pivotEquation, pivotUnknown);
            }
            order.size = work.size;
            order.made = made;
            order.found = true;
        }

        boolean choose() {
            int least = Integer.MAX_VALUE;
            for (int e = 0; e < work.size; e++) {
                int entries = work.inEquation[e] & unknownsLeft;
                if ((equationsLeft >> e & 1) == 0 || entries == 0) {
                    continue;
                }
                int beside = Integer.bitCount(entries) - 1;
                double bound = greatest(e) / 64;
                for (int m = entries; m != 0; m &= m - 1) {
                    int j = Integer.numberOfTrailingZeros(m);
                    double size = sizeOf(work.cells[e * MOST_UNKNOWNS + j]);
                    int product = beside * (Integer.bitCount(work.ofUnknown[j] & equationsLeft) - 1);
                    if (product < least && size >= 1 / 1099511627776.0 && size >= bound) {
                        least = product;
                        pivotEquation = e;
                        pivotUnknown = j;
                    }
                }
            }
            return least < Integer.MAX_VALUE;
        }

        double greatest(int e) {
            double most = 0;
            for (int m = work.inEquation[e] & unknownsLeft; m != 0; m &= m - 1) {
                double x = work.cells[e * MOST_UNKNOWNS + Integer.numberOfTrailingZeros(m)];
                double size = x < 0 ? -x : x;
                most = size > most ? size : most;
            }
            return most;
        }

        void eliminate(int p, int q) {
            equationsLeft &= ~(1 << p);
            unknownsLeft &= ~(1 << q);
            int entries = work.inEquation[p] & unknownsLeft;
            double pivot = work.cells[p * MOST_UNKNOWNS + q];
            for (int m = work.ofUnknown[q] & equationsLeft; m != 0; m &= m - 1) {
                int e = Integer.numberOfTrailingZeros(m);
                double f = work.cells[e * MOST_UNKNOWNS + q] / pivot;
                for (int l = entries; l != 0; l &= l - 1) {
                    int j = Integer.numberOfTrailingZeros(l);
                    work.cells[e * MOST_UNKNOWNS + j] -= f * work.cells[p * MOST_UNKNOWNS + j];
                    work.ofUnknown[j] |= 1 << e;
                }
                made += Integer.bitCount(entries & ~work.inEquation[e]);
                work.inEquation[e] |= entries;
                work.right[e] = tame(work.right[e] - f * work.right[p]);
            }
        }

        void substitute(Order order, double[] x) {
            int later = 0;
            for (int k = order.size - 1; k >= 0; k--) {
                int p = order.equations[k];
                int q = order.unknowns[k];
                double s = work.right[p];
                for (int m = work.inEquation[p] & later; m != 0; m &= m - 1) {
                    int j = Integer.numberOfTrailingZeros(m);
                    s = tame(s - work.cells[p * MOST_UNKNOWNS + j] * x[j]);
                }
                x[q] = tame(s / work.cells[p * MOST_UNKNOWNS + q]);
                later |= 1 << q;
            }
        }

        int seekWild(double[] x) {
            for (int j = 0; j < work.size; j++) {
                if (sizeOf(x[j]) >= 1152921504606846976.0) {
                    at = j;
                    return WILD;
                }
            }
            return 0;
        }

        // Far beyond WILD: without it two infinite ones could meet and answer no number.
        static double tame(double x) {
            if (x > 1e300) {
                return 1e300;
            }
            return x < -1e300 ? -1e300 : x;
        }
    }

    /** Stamps, solves and limits by ROUNDS; what comes stands in its own rows until it is taken. */
    private static final class Rounds {
        final Board board;
        final Solver solver;
        final int[] counts = new int[COUNTERS];
        final Equations equations = new Equations();
        final Order order = new Order();
        final double[] x = new double[MOST_UNKNOWNS];
        final double[] next = new double[MOST_UNKNOWNS];
        final double[] guess = new double[MOST_PARTS];
        final double[] factorB = new double[MOST_PARTS];
        double factorA;
        double scale;
        int at;

        Rounds(Board itsBoard, Solver itsSolver) {
            board = itsBoard;
            solver = itsSolver;
        }

        void dropOrder() {
            order.found = false;
            equations.stamped = false;
        }

        void beginFromNothing() {
            Arrays.fill(x, 0.0);
            Arrays.fill(guess, 0.0);
            Arrays.fill(factorB, 0.0);
            factorA = 0;
        }

        void beginFrom(State state) {
            System.arraycopy(state.x, 0, x, 0, MOST_UNKNOWNS);
            System.arraycopy(state.guess, 0, guess, 0, MOST_PARTS);
        }

        int settle(int t, double itsScale) {
            scale = itsScale;
            for (int round = 0; round < MOST_ROUNDS; round++) {
                stamp(t);
                counts[SOLVED]++;
                int fault = solver.solve(equations, order, next);
                counts[ORDERS] += solver.anew ? 1 : 0;
                if (fault != 0) {
                    at = solver.at;
                    return fault;
                }
                boolean limited = limitGuesses();
                boolean close = comesClose();
                System.arraycopy(next, 0, x, 0, board.unknowns);
                if (board.junctions == 0 || close && !limited) {
                    return 0;
                }
            }
            return STUCK;
        }

        boolean limitGuesses() {
            boolean limited = false;
            for (int i = 0; i < board.size; i++) {
                if (board.parts[i].kind != JUNCTION) {
                    continue;
                }
                double v = board.across(next, i);
                double u = guess[i];
                if (v > u + 1 || v < u - 1) {
                    guess[i] = v > u + 1 ? u + 1 : u - 1;
                    counts[LIMITED]++;
                    limited = true;
                } else {
                    guess[i] = v;
                }
            }
            return limited;
        }

        /** Notes on the way which UNKNOWN differs the most, for STUCK. */
        boolean comesClose() {
            boolean close = true;
            double most = -1;
            for (int j = 0; j < board.unknowns; j++) {
                double differs = sizeOf(next[j] - x[j]);
                if (differs > most) {
                    most = differs;
                    at = j;
                }
                close = close && differs <= (1 + sizeOf(next[j])) / 65536;
            }
            return close;
        }

        void stamp(int t) {
            equations.begin(board.unknowns);
            int nodes = Integer.bitCount(board.used);
            for (int v = 0; v < nodes; v++) {
                equations.add(v, v, 1 / 1048576.0);
            }
            for (int i = 0; i < board.size; i++) {
                stampPart(i, t);
            }
        }

        void stampPart(int i, int t) {
            Part part = board.parts[i];
            int a = board.nodeUnknown[part.a];
            int b = board.nodeUnknown[part.b];
            int own = board.partUnknown[i];
            switch (part.kind) {
                case RESISTOR:
                case SWITCH:
                    equations.addConductance(a, b, part.conductanceAt(t));
                    break;
                case CAPACITOR:
                    equations.addConductance(a, b, part.strength() * factorA);
                    equations.addFlow(a, b, part.strength() * factorB[i]);
                    break;
                case COIL:
                    equations.addBranch(a, b, own);
                    equations.add(own, own, -(part.strength() * factorA));
                    equations.addRight(own, part.strength() * factorB[i]);
                    break;
                case VOLTAGE:
                    equations.addBranch(a, b, own);
                    equations.addRight(own, scale * part.waveAt(t));
                    break;
                case CURRENT:
                    equations.addFlow(a, b, scale * part.waveAt(t));
                    break;
                case JUNCTION:
                    equations.addConductance(a, b, part.slopeAt(guess[i]));
                    equations.addFlow(a, b, part.offsetAt(guess[i]));
                    break;
                default:
                    stampGain(a, b, part);
                    break;
            }
        }

        void stampGain(int a, int b, Part part) {
            double m = part.strength();
            int c = board.nodeUnknown[part.c];
            int d = board.nodeUnknown[part.d];
            equations.add(a, c, m);
            equations.add(a, d, -m);
            equations.add(b, c, -m);
            equations.add(b, d, m);
        }
    }

    /** What the last REST or STEP left: UNKNOWNS, guesses, x1, x2 and d1 by PARTS, the time. */
    private static final class State {
        final double[] x = new double[MOST_UNKNOWNS];
        final double[] guess = new double[MOST_PARTS];
        final double[] last = new double[MOST_PARTS];
        final double[] before = new double[MOST_PARTS];
        final double[] slope = new double[MOST_PARTS];
        boolean ready;
        boolean fresh;
        int time;
        int wanted = 1;
        int lastH = 1;

        void take(State other) {
            System.arraycopy(other.x, 0, x, 0, MOST_UNKNOWNS);
            System.arraycopy(other.guess, 0, guess, 0, MOST_PARTS);
            System.arraycopy(other.last, 0, last, 0, MOST_PARTS);
            System.arraycopy(other.before, 0, before, 0, MOST_PARTS);
            System.arraycopy(other.slope, 0, slope, 0, MOST_PARTS);
            ready = other.ready;
            fresh = other.fresh;
            time = other.time;
            wanted = other.wanted;
            lastH = other.lastH;
        }
    }

    /** Goes from REST on by STEPS. One course is lived, another one foretells from a copy of it. */
    private static final class Course {
        final Board board;
        final Rounds rounds;
        final int[] counts;
        final State state = new State();
        int scheme = TRAPEZOID;
        int allowance = 16;
        int failed;
        int failedAt = NONE;
        int forcedPart = NONE;
        int overBound;
        boolean calm;
        int longest;

        Course(Board itsBoard, Solver solver) {
            board = itsBoard;
            rounds = new Rounds(itsBoard, solver);
            counts = rounds.counts;
        }

        void reset() {
            dropOrder();
            Arrays.fill(counts, 0);
            scheme = TRAPEZOID;
            allowance = 16;
            failed = 0;
            failedAt = NONE;
            forcedPart = NONE;
        }

        void dropOrder() {
            rounds.dropOrder();
            state.ready = false;
        }

        void freshen() {
            state.fresh = true;
            state.wanted = 1;
        }

        void follow(Course other) {
            state.take(other.state);
            rounds.order.take(other.rounds.order);
            scheme = other.scheme;
            allowance = other.allowance;
            Arrays.fill(counts, 0);
        }

        int fail(int fault) {
            failed = fault;
            failedAt = fault == 0 ? NONE : rounds.at;
            return fault;
        }

        int findRest() {
            rounds.beginFromNothing();
            int fault = rounds.settle(0, 1);
            if (fault == STUCK || fault == WILD) {
                fault = climb();
            }
            if (fault == 0) {
                startAtRest();
            }
            return fail(fault);
        }

        int climb() {
            counts[SPARED]++;
            rounds.beginFromNothing();
            int fault = 0;
            for (int quarter = 1; quarter <= 4 && fault == 0; quarter++) {
                fault = rounds.settle(0, quarter / 4.0);
            }
            return fault;
        }

        void startAtRest() {
            keepRounds();
            for (int i = 0; i < board.size; i++) {
                state.last[i] = board.stored(state.x, i);
                state.slope[i] = 0;
            }
            state.time = 0;
            state.ready = true;
            freshen();
        }

        void keepRounds() {
            System.arraycopy(rounds.x, 0, state.x, 0, MOST_UNKNOWNS);
            System.arraycopy(rounds.guess, 0, state.guess, 0, MOST_PARTS);
        }

        /** How much time is gone. */
        int goOn(int ticks) {
            longest = 0;
            int gone = 0;
            for (int k = 0; k < MOST_TICKS && gone < ticks; k++) {
                int h = takeStep();
                if (h == 0) {
                    break;
                }
                gone += h;
                longest = Math.max(longest, h);
            }
            return gone;
        }

        /** Halving MOST_H comes to 1 at the seventh TRY, and that one is taken or fails. */
        int takeStep() {
            int h = firstH();
            for (int k = 0; k < MOST_H; k++) {
                counts[TRIES]++;
                rounds.beginFrom(state);
                setFactors(h);
                int fault = rounds.settle(state.time + h, 1);
                if (fault == 0) {
                    weighErrors(h);
                    if (overBound == NONE || h == 1) {
                        take(h);
                        return h;
                    }
                } else if (h == 1) {
                    fail(fault);
                    return 0;
                }
                counts[REFUSED]++;
                h = h / 2;
            }
            return 0;
        }

        int firstH() {
            int h = state.fresh ? 1 : state.wanted;
            int stop = board.firstBreak(state.time + 1);
            return stop == NONE ? h : Math.min(h, stop - state.time);
        }

        void setFactors(int h) {
            int now = state.fresh ? EULER : scheme;
            double r = (double) h / state.lastH;
            double a = 1.0 / h;
            if (now == TRAPEZOID) {
                a = 2.0 / h;
            } else if (now == GEAR) {
                a = (1 + 2 * r) / (1 + r) / h;
            }
            rounds.factorA = a;
            for (int i = 0; i < board.size; i++) {
                double x1 = state.last[i];
                if (now == GEAR) {
                    rounds.factorB[i] = (0 - (1 + r) * x1 + r * r / (1 + r) * state.before[i]) / h;
                } else if (now == TRAPEZOID) {
                    rounds.factorB[i] = 0 - a * x1 - state.slope[i];
                } else {
                    rounds.factorB[i] = 0 - a * x1;
                }
            }
        }

        /** Finds the first PART whose error is more than its bound, and whether all are well below. */
        void weighErrors(int h) {
            overBound = NONE;
            calm = !state.fresh;
            for (int i = 0; i < board.size && !state.fresh; i++) {
                if (!board.parts[i].stores()) {
                    continue;
                }
                double x = board.stored(rounds.x, i);
                double x1 = state.last[i];
                double error = sizeOf(x - (x1 + (x1 - state.before[i]) / state.lastH * h));
                double bound = allowance / 1024.0 * (1 + sizeOf(x));
                if (error > bound && overBound == NONE) {
                    overBound = i;
                }
                calm = calm && error * 4 <= bound;
            }
        }

        void take(int h) {
            keepRounds();
            for (int i = 0; i < board.size; i++) {
                double x = board.stored(state.x, i);
                state.before[i] = state.last[i];
                state.last[i] = x;
                state.slope[i] = rounds.factorA * x + rounds.factorB[i];
            }
            state.lastH = h;
            state.time += h;
            state.fresh = board.firstBreak(state.time) == state.time;
            state.wanted = state.fresh ? 1 : calm ? Math.min(2 * h, MOST_H) : h;
            forcedPart = overBound;
            counts[FORCED] += overBound == NONE ? 0 : 1;
            counts[TAKEN]++;
            fail(0);
        }

        double voltageNow(int node) {
            return state.ready ? board.voltageOf(state.x, node) : 0;
        }

        double flowOf(int i) {
            Part part = board.parts[i];
            double v = board.across(state.x, i);
            switch (part.kind) {
                case RESISTOR:
                case SWITCH:
                    return part.conductanceAt(state.time) * v;
                case CAPACITOR:
                    return part.strength() * state.slope[i];
                case COIL:
                case VOLTAGE:
                    return board.stored(state.x, i);
                case CURRENT:
                    return part.waveAt(state.time);
                case JUNCTION:
                    return v > 0 ? part.strength() * v * v : 0;
                default:
                    return part.strength() * (board.voltageOf(state.x, part.c) - board.voltageOf(state.x, part.d));
            }
        }

        double balanceOf(int node) {
            double sum = 1 / 1048576.0 * board.voltageOf(state.x, node);
            for (int i = 0; i < board.size; i++) {
                if (board.parts[i].a == node) {
                    sum = sum + flowOf(i);
                } else if (board.parts[i].b == node) {
                    sum = sum - flowOf(i);
                }
            }
            return sum;
        }
    }
}
