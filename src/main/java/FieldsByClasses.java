/**
 * The whole fields over the rationals whose turns commute, each as a group of rests that bars it.
 *
 * <p>A FIELD is held as its BAR and its GROUP by that BAR, the GROUP as bits (bit r: r is in it). As no m is above 63,
 * one long holds each GROUP. Nothing here throws: every divisor is looked at in Whole, every index before its use.
 */
public final class FieldsByClasses {
    /** There is none. */
    public static final int NONE = -1;

    private static final int MOST_M = 63;
    private static final int MOST_POWER = 60;
    private static final int MOST_PRIME = 997;
    private static final int MOST_DEGREE = 8;
    private static final int MOST_FIELDS = 40;
    private static final int IMAGES = 3;
    private static final int NOT_TOLD = -9;
    private static final long NO_NUMBER = -9000000000000000000L;

    private final Shelf shelf;
    private final Shelf[] images;
    private final Cycles cycles;
    private final Above above;
    private final Book book;
    private final Sums sums;

    public FieldsByClasses() {
        shelf = new Shelf();
        images = new Shelf[IMAGES];
        cycles = new Cycles();
        above = new Above();
        book = new Book();
        sums = new Sums();
    }

    /** How many RESTS there are by m; NONE for another m. */
    public int rests(int m) {
        return isM(m) ? Rests.size(Rests.all(m)) : NONE;
    }

    /** Factor k of the RESTS by m, each of which goes into the next; NONE if there is none such. */
    public int factor(int m, int k) {
        if (!isM(m) || k < 0) {
            return NONE;
        }
        cycles.find(m);
        return cycles.above1(k);
    }

    /** The least number such that the power of r by it is 1; NONE if r is none of the RESTS by m. */
    public int order(int m, int r) {
        if (!isM(m) || !Rests.has(Rests.all(m), r)) {
            return NONE;
        }
        return Rests.orderOver(Rests.one(m), r, m);
    }

    /** The FIELD of the least GROUP by m that has all RESTS of these bits: its number, or NONE. */
    public int make(int m, long bits) {
        if (!isM(m) || (bits & ~Rests.all(m)) != 0) {
            return NONE;
        }
        return keep(Rests.madeOf(bits, m), m);
    }

    /** The FIELD whose GROUP are all kth powers of the RESTS by m: its number, or NONE. */
    public int powers(int m, int k) {
        if (!isM(m) || k < 1 || k > MOST_POWER) {
            return NONE;
        }
        return keep(Rests.allPowers(m, k), m);
    }

    /** Two FIELDS JOINED: its number, or NONE. */
    public int join(int a, int b) {
        int m = commonM(a, b);
        return m == NONE ? NONE : keep(shelf.bitsBy(a, m) & shelf.bitsBy(b, m), m);
    }

    /** Two FIELDS MET: its number, or NONE. */
    public int meet(int a, int b) {
        int m = commonM(a, b);
        return m == NONE ? NONE : keep(Rests.product(shelf.bitsBy(a, m), shelf.bitsBy(b, m), m), m);
    }

    /** Whether FIELD a LIES IN b; false, too, if there are none such. */
    public boolean liesIn(int a, int b) {
        if (!shelf.holds(a) || !shelf.holds(b)) {
            return false;
        }
        // The BAR of both joined is the least m that both BARS go into: it is b's only if a's goes into b's.
        int m = shelf.barOf(b);
        return Whole.goesInto(shelf.barOf(a), m) && (shelf.bitsOf(b) & ~shelf.bitsBy(a, m)) == 0;
    }

    /** Of a FIELD, 0: BAR, 1: DEGREE, 2: REAL, 3: CYCLIC, 4: SIGN, 5: how many FIELDS lie in it; else -9. */
    public int tell(int field, int what) {
        if (!shelf.holds(field)) {
            return NOT_TOLD;
        }
        int m = shelf.barOf(field);
        long bits = shelf.bitsOf(field);
        switch (what) {
            case 0:
                return m;
            case 1:
                return Rests.degree(bits, m);
            case 2:
                return Rests.isReal(bits, m) ? 1 : 0;
            case 3:
                return Rests.isCyclic(bits, m) ? 1 : 0;
            case 4:
                return Rests.sign(bits, m);
            case 5:
                above.find(bits, m);
                return above.size();
            default:
                return NOT_TOLD;
        }
    }

    /** Bits of a FIELD's GROUP, by its BAR; -1 if there is none such. */
    public long group(int field) {
        return shelf.holds(field) ? shelf.bitsOf(field) : -1L;
    }

    /** How a prime PARTS in a FIELD, 0: e, 1: f, 2: g; else NONE. */
    public int parts(int field, int p, int what) {
        if (!shelf.holds(field) || !Whole.isPrime(p)) {
            return NONE;
        }
        int m = shelf.barOf(field);
        long bits = shelf.bitsOf(field);
        int n = Whole.without(m, p);
        long products = Rests.product(bits, Rests.onesBy(n, m), m);
        // The products have all RESTS that are 1 by n, so it is enough to look at them, and at p's powers, by n.
        int f = Rests.orderOver(Rests.lowered(products, n), Whole.rest(p, n), n);
        switch (what) {
            case 0:
                return Whole.quotient(Rests.size(products), Rests.size(bits));
            case 1:
                return f;
            case 2:
                return Whole.quotient(Rests.degree(products, m), f);
            default:
                return NONE;
        }
    }

    /** How often a prime goes into a FIELD's DISCRIMINANT; NONE if there is no such FIELD or prime. */
    public int discriminant(int field, int p) {
        if (!shelf.holds(field) || !Whole.isPrime(p)) {
            return NONE;
        }
        int m = shelf.barOf(field);
        above.find(shelf.bitsOf(field), m);
        int often = 0;
        for (int i = 0; i < above.size(); i++) {
            often += Rests.characters(above.at(i), m) * Whole.howOften(p, Rests.bar(above.at(i), m));
        }
        return often;
    }

    /** How many FIELDS are in the LIST of a DEGREE and a bound; NONE for another DEGREE or bound. */
    public int list(int degree, int bound) {
        if (!isDegree(degree) || !isM(bound)) {
            return NONE;
        }
        book.fillTo(bound);
        return book.howMany(degree, bound);
    }

    /** FIELD k of the LIST of a DEGREE and a bound: its number, or NONE. */
    public int listed(int degree, int bound, int k) {
        if (!isDegree(degree) || !isM(bound) || k < 0) {
            return NONE;
        }
        book.fillTo(bound);
        int place = book.placeOf(degree, bound, k);
        return place == NONE ? NONE : shelf.put(book.barAt(place), book.bitsAt(place));
    }

    /** The number at X ^ k of a FIELD's POLYNOMIAL; -9000000000000000000 if there is none such. */
    public long polynomial(int field, int k) {
        if (!shelf.holds(field) || !sums.find(shelf.bitsOf(field), shelf.barOf(field))) {
            return NO_NUMBER;
        }
        return k >= 0 && k <= sums.degree() ? sums.numberAt(k) : NO_NUMBER;
    }

    /** How many of 0 .. p - 1 a FIELD's POLYNOMIAL makes 0 by p; NONE if there is none such. */
    public int roots(int field, int p) {
        if (!shelf.holds(field) || !Whole.isPrime(p)) {
            return NONE;
        }
        if (!sums.find(shelf.bitsOf(field), shelf.barOf(field))) {
            return NONE;
        }
        int found = 0;
        for (int x = 0; x < p; x++) {
            if (sums.valueBy(p, x) == 0) {
                found++;
            }
        }
        return found;
    }

    /** How many: 0 FIELDS made, 1 the greatest BAR of them (0 without); NONE for another what. */
    public int count(int what) {
        switch (what) {
            case 0:
                return shelf.size();
            case 1:
                return shelf.greatestBar();
            default:
                return NONE;
        }
    }

    /** All FIELDS made are gone; the images stay. */
    public void clear() {
        shelf.empty();
    }

    /** Image k is all that is told, as it is now: true; false for another k. */
    public boolean image(int k) {
        if (k < 0 || k >= images.length) {
            return false;
        }
        Shelf kept = images[k];
        if (kept == null) {
            kept = new Shelf();
            images[k] = kept;
        }
        kept.copyFrom(shelf);
        return true;
    }

    /** All that is as image k has it: true; false if there is none such. */
    public boolean again(int k) {
        if (k < 0 || k >= images.length) {
            return false;
        }
        Shelf kept = images[k];
        if (kept == null) {
            return false;
        }
        shelf.copyFrom(kept);
        return true;
    }

    private static boolean isM(int m) {
        return m >= 1 && m <= MOST_M;
    }

    private static boolean isDegree(int degree) {
        return degree >= 1 && degree <= MOST_DEGREE;
    }

    /** The number of the FIELD of a GROUP by m, told by its BAR; NONE if there would be too many. */
    private int keep(long group, int m) {
        int bar = Rests.bar(group, m);
        return shelf.put(bar, Rests.lowered(group, bar));
    }

    /** The least m that the BARS of two FIELDS go into; NONE if it is too great or there are none such. */
    private int commonM(int a, int b) {
        if (!shelf.holds(a) || !shelf.holds(b)) {
            return NONE;
        }
        int m = Whole.leastMultiple(shelf.barOf(a), shelf.barOf(b));
        return isM(m) ? m : NONE;
    }

    /** Whole numbers, 0 or above. */
    private static final class Whole {
        static int rest(int a, int b) {
            return b < 1 ? 0 : a % b;
        }

        static int quotient(int a, int b) {
            return b < 1 ? 0 : a / b;
        }

        static boolean goesInto(int d, int a) {
            return d >= 1 && a % d == 0;
        }

        static int greatestDivisor(int a, int b) {
            int x = a;
            int y = b;
            for (int step = 0; step < MOST_M && y > 0; step++) {
                int left = x % y;
                x = y;
                y = left;
            }
            return x;
        }

        static int leastMultiple(int a, int b) {
            return quotient(a, greatestDivisor(a, b)) * b;
        }

        /** Whether p is a prime of 2 .. 997. */
        static boolean isPrime(int p) {
            if (p < 2 || p > MOST_PRIME) {
                return false;
            }
            for (int d = 2; d * d <= p; d++) {
                if (goesInto(d, p)) {
                    return false;
                }
            }
            return true;
        }

        /** How often p, 2 or above, goes into a, which is 1 .. 63. */
        static int howOften(int p, int a) {
            int left = a;
            for (int often = 0; often < MOST_M; often++) {
                if (left < 1 || !goesInto(p, left)) {
                    return often;
                }
                left = quotient(left, p);
            }
            return 0;
        }

        /** What is left of a without p. */
        static int without(int a, int p) {
            int left = a;
            int often = howOften(p, a);
            for (int i = 0; i < often; i++) {
                left = quotient(left, p);
            }
            return left;
        }

        /** 0 if a square above 1 goes into a, else -1 or 1 as an odd or even number of primes does. */
        static int signOfPrimes(int a) {
            int sign = 1;
            for (int p = 2; p <= a; p++) {
                if (goesInto(p, a) && isPrime(p)) {
                    if (howOften(p, a) > 1) {
                        return 0;
                    }
                    sign = -sign;
                }
            }
            return sign;
        }
    }

    /** RESTS by m, 1 .. 63, as bits, and GROUPS of them. */
    private static final class Rests {
        static long bit(int r) {
            return r < 0 || r >= MOST_M ? 0L : 1L << r;
        }

        static boolean has(long bits, int r) {
            return r >= 0 && r < MOST_M && (bits >> r & 1L) != 0;
        }

        static int size(long bits) {
            return Long.bitCount(bits);
        }

        /** All RESTS by m; of m 1, 0 comes out as well, as its greatest common divisor with 1 is 1. */
        static long all(int m) {
            long all = 0;
            for (int r = 0; r < m && r < MOST_M; r++) {
                if (Whole.greatestDivisor(r, m) == 1) {
                    all |= bit(r);
                }
            }
            return all;
        }

        /** The least GROUP by m. */
        static long one(int m) {
            return bit(Whole.rest(1, m));
        }

        /** All products of r with what these bits have. */
        static long times(long bits, int r, int m) {
            long products = 0;
            for (int s = 0; s < m; s++) {
                if (has(bits, s)) {
                    products |= bit(Whole.rest(r * s, m));
                }
            }
            return products;
        }

        /** All products of one of each of two GROUPS by m. */
        static long product(long a, long b, int m) {
            long products = a;
            for (int r = 0; r < m; r++) {
                if (has(b & ~products, r)) {
                    products |= times(a, r, m);
                }
            }
            return products;
        }

        /** The least GROUP by m that has a GROUP and one of the RESTS. */
        static long with(long group, int r, int m) {
            long greater = group;
            int power = r;
            for (int step = 0; step < m && !has(group, power); step++) {
                greater |= times(group, power, m);
                power = Whole.rest(power * r, m);
            }
            return greater;
        }

        /** The least GROUP by m that has all RESTS of these bits. */
        static long madeOf(long bits, int m) {
            long group = one(m);
            for (int r = 0; r < m; r++) {
                if (has(bits & ~group, r)) {
                    group = with(group, r, m);
                }
            }
            return group;
        }

        /** All RESTS by m that are kth powers. */
        static long allPowers(int m, int k) {
            long all = all(m);
            long powers = 0;
            for (int r = 0; r < m; r++) {
                if (has(all, r)) {
                    int power = Whole.rest(1, m);
                    for (int i = 0; i < k; i++) {
                        power = Whole.rest(power * r, m);
                    }
                    powers |= bit(power);
                }
            }
            return powers;
        }

        /** The least number, 1 or above, such that the power of r by it lies in a GROUP by m. */
        static int orderOver(long group, int r, int m) {
            int power = r;
            for (int n = 1; n < m; n++) {
                if (has(group, power)) {
                    return n;
                }
                power = Whole.rest(power * r, m);
            }
            return 1;
        }

        /** All RESTS by m that are 1 by n, a number that goes into m. */
        static long onesBy(int n, int m) {
            long all = all(m);
            long ones = 0;
            for (int r = 0; r < m; r++) {
                if (has(all, r) && Whole.rest(r, n) == Whole.rest(1, n)) {
                    ones |= bit(r);
                }
            }
            return ones;
        }

        /** A GROUP by m as the GROUP by n, into which m goes, that is the same FIELD. */
        static long lifted(long group, int m, int n) {
            long all = all(n);
            long same = 0;
            for (int r = 0; r < n; r++) {
                if (has(all, r) && has(group, Whole.rest(r, m))) {
                    same |= bit(r);
                }
            }
            return same;
        }

        /** What a GROUP's RESTS are by n. */
        static long lowered(long group, int n) {
            long rests = 0;
            for (int r = 0; r < MOST_M; r++) {
                if (has(group, r)) {
                    rests |= bit(Whole.rest(r, n));
                }
            }
            return rests;
        }

        /** The BAR of a GROUP by m. */
        static int bar(long group, int m) {
            long others = all(m) & ~group;
            for (int n = 1; n < m; n++) {
                if (Whole.goesInto(n, m) && !hasOneBy(others, n, m)) {
                    return n;
                }
            }
            return m;
        }

        /** Whether one of these bits, below m, is 1 by n. */
        private static boolean hasOneBy(long bits, int n, int m) {
            for (int r = 0; r < m; r++) {
                if (has(bits, r) && Whole.rest(r, n) == Whole.rest(1, n)) {
                    return true;
                }
            }
            return false;
        }

        static int degree(long group, int m) {
            return Whole.quotient(size(all(m)), size(group));
        }

        static boolean isReal(long group, int m) {
            return has(group, m - 1);
        }

        static boolean isCyclic(long group, int m) {
            long all = all(m);
            int degree = degree(group, m);
            for (int r = 0; r < m; r++) {
                if (has(all, r) && orderOver(group, r, m) == degree) {
                    return true;
                }
            }
            return false;
        }

        static int sign(long group, int m) {
            int half = Whole.quotient(degree(group, m), 2);
            return !isReal(group, m) && !Whole.goesInto(2, half) ? -1 : 1;
        }

        /** How often a GROUP by m is counted as a CHARACTER: never, if its FIELD is not CYCLIC. */
        static int characters(long group, int m) {
            // A DEGREE is at most 60, so the RESTS by it can be told as bits.
            return isCyclic(group, m) ? size(all(degree(group, m))) : 0;
        }
    }

    /** The cycles that the RESTS by one m are put together of, each of which goes into the next. */
    private static final class Cycles {
        /** At most three primes go into an m, and 2 alone may give two cycles. */
        private static final int MOST = 4;

        private final int[] lengths = new int[MOST];
        private int size;

        void find(int m) {
            size = 0;
            for (int p = 2; p <= m; p++) {
                if (Whole.goesInto(p, m) && Whole.isPrime(p)) {
                    addThoseBy(p, Whole.quotient(m, Whole.without(m, p)));
                }
            }
            for (int i = 0; i < size; i++) {
                for (int j = i + 1; j < size; j++) {
                    split(i, j);
                }
            }
        }

        /** Cycle k of those above 1; NONE if there is none such. */
        int above1(int k) {
            int seen = 0;
            for (int i = 0; i < size && i < MOST; i++) {
                if (lengths[i] > 1) {
                    if (seen == k) {
                        return lengths[i];
                    }
                    seen++;
                }
            }
            return NONE;
        }

        private void addThoseBy(int p, int power) {
            int rests = Rests.size(Rests.all(power));
            // By 8 and on, the powers of 5 are only half of the RESTS: -1 is a cycle of its own.
            if (p == 2 && power > 4) {
                add(2);
                add(Whole.quotient(rests, 2));
            } else {
                add(rests);
            }
        }

        private void add(int length) {
            if (size >= 0 && size < MOST) {
                lengths[size] = length;
                size++;
            }
        }

        /** Two cycles are as good as those of their greatest divisor and of their least multiple. */
        private void split(int i, int j) {
            if (i < 0 || j < 0 || i >= MOST || j >= MOST) {
                return;
            }
            int divisor = Whole.greatestDivisor(lengths[i], lengths[j]);
            int multiple = Whole.leastMultiple(lengths[i], lengths[j]);
            lengths[i] = divisor;
            lengths[j] = multiple;
        }
    }

    /** The FIELDS that are made, by their numbers. */
    private static final class Shelf {
        private final int[] bars = new int[MOST_FIELDS];
        private final long[] groups = new long[MOST_FIELDS];
        private int size;

        int size() {
            return size;
        }

        boolean holds(int field) {
            return field >= 0 && field < size && field < MOST_FIELDS;
        }

        int barOf(int field) {
            return holds(field) ? bars[field] : NONE;
        }

        long bitsOf(int field) {
            return holds(field) ? groups[field] : 0L;
        }

        /** The GROUP by m, into which the FIELD's BAR goes, that is the same FIELD. */
        long bitsBy(int field, int m) {
            return Rests.lifted(bitsOf(field), barOf(field), m);
        }

        /** The number of the FIELD of a BAR and a GROUP by it, put last if it is new; NONE if there is no room. */
        int put(int bar, long group) {
            for (int i = 0; i < size && i < MOST_FIELDS; i++) {
                if (bars[i] == bar && groups[i] == group) {
                    return i;
                }
            }
            if (size < 0 || size >= MOST_FIELDS) {
                return NONE;
            }
            bars[size] = bar;
            groups[size] = group;
            size++;
            return size - 1;
        }

        int greatestBar() {
            int greatest = 0;
            for (int i = 0; i < size && i < MOST_FIELDS; i++) {
                greatest = Math.max(greatest, bars[i]);
            }
            return greatest;
        }

        void empty() {
            size = 0;
        }

        void copyFrom(Shelf other) {
            if (other == null) {
                return;
            }
            for (int i = 0; i < MOST_FIELDS; i++) {
                bars[i] = other.bars[i];
                groups[i] = other.groups[i];
            }
            size = other.size;
        }
    }

    /** All GROUPS by one m that a GROUP lies in, itself first. */
    private static final class Above {
        /** By no m up to 63 are there more than 32 GROUPS (by 56). */
        private static final int MOST = 64;

        private final long[] found = new long[MOST];
        private int size;

        int size() {
            return size;
        }

        long at(int k) {
            return k >= 0 && k < size && k < MOST ? found[k] : 0L;
        }

        void find(long group, int m) {
            size = 0;
            add(group);
            for (int i = 0; i < size && i < MOST; i++) {
                addNextTo(found[i], m);
            }
        }

        /** All that one of the RESTS more makes out of a GROUP. */
        private void addNextTo(long group, int m) {
            long left = Rests.all(m) & ~group;
            for (int r = 0; r < m; r++) {
                if (Rests.has(left, r)) {
                    add(Rests.with(group, r, m));
                    // One of each class is enough: the others of it make the same.
                    left &= ~Rests.times(group, r, m);
                }
            }
        }

        private void add(long group) {
            for (int i = 0; i < size && i < MOST; i++) {
                if (found[i] == group) {
                    return;
                }
            }
            if (size >= 0 && size < MOST) {
                found[size] = group;
                size++;
            }
        }
    }

    /** All FIELDS that can stand in a LIST, in its order, found as far as they were asked for. */
    private static final class Book {
        /** Up to BAR 63 there are 181 of them. */
        private static final int MOST = 256;

        private final Above above = new Above();
        private final int[] bars = new int[MOST];
        private final long[] groups = new long[MOST];
        private final int[] degrees = new int[MOST];
        private int size;
        private int filledTo;

        int barAt(int place) {
            return holds(place) ? bars[place] : NONE;
        }

        long bitsAt(int place) {
            return holds(place) ? groups[place] : 0L;
        }

        void fillTo(int bound) {
            for (int m = filledTo + 1; m <= bound && m <= MOST_M; m++) {
                above.find(Rests.one(m), m);
                for (int i = 0; i < above.size(); i++) {
                    addIfBarredBy(m, above.at(i));
                }
                filledTo = m;
            }
        }

        int howMany(int degree, int bound) {
            int many = 0;
            for (int i = 0; i < size && i < MOST && bars[i] <= bound; i++) {
                if (degrees[i] == degree) {
                    many++;
                }
            }
            return many;
        }

        /** The place of FIELD k of a DEGREE with a BAR of at most the bound; NONE if there is none such. */
        int placeOf(int degree, int bound, int k) {
            int seen = 0;
            for (int i = 0; i < size && i < MOST && bars[i] <= bound; i++) {
                if (degrees[i] == degree) {
                    if (seen == k) {
                        return i;
                    }
                    seen++;
                }
            }
            return NONE;
        }

        private boolean holds(int place) {
            return place >= 0 && place < size && place < MOST;
        }

        private void addIfBarredBy(int m, long group) {
            int degree = Rests.degree(group, m);
            if (!isDegree(degree) || Rests.bar(group, m) != m || size < 0 || size >= MOST) {
                return;
            }
            int place = size;
            for (; place > 0 && bars[place - 1] == m && groups[place - 1] > group; place--) {
                copy(place - 1, place);
            }
            bars[place] = m;
            groups[place] = group;
            degrees[place] = degree;
            size++;
        }

        private void copy(int from, int to) {
            if (from < 0 || to < 0 || from >= MOST || to >= MOST) {
                return;
            }
            bars[to] = bars[from];
            groups[to] = groups[from];
            degrees[to] = degrees[from];
        }
    }

    /** THE POLYNOMIAL of one FIELD, out of its SUMS, in whole numbers alone. */
    private static final class Sums {
        /** At j: the sum of all powers of z by j * r, r all RESTS by m: a whole number. */
        private final long[] traces = new long[MOST_M];
        /** A power of the first SUM: at j, how often z ^ j is in it. */
        private final long[] power = new long[MOST_M];
        private final long[] next = new long[MOST_M];
        /** At k: all SUMS' kth powers together. */
        private final long[] together = new long[MOST_DEGREE + 1];
        /** At k: the number at X ^ (DEGREE - k). */
        private final long[] numbers = new long[MOST_DEGREE + 1];
        private int degree;

        int degree() {
            return degree;
        }

        long numberAt(int k) {
            int place = degree - k;
            return place >= 0 && place < numbers.length ? numbers[place] : 0L;
        }

        /** Whether there is one; it can be asked for then. */
        boolean find(long group, int m) {
            degree = Rests.degree(group, m);
            if (!isM(m) || !isDegree(degree)) {
                return false;
            }
            fillTraces(m);
            if (hasAlike(group, m)) {
                return false;
            }
            fillTogether(group, m);
            fillNumbers();
            return true;
        }

        /** What THE POLYNOMIAL makes of x, by p. */
        int valueBy(int p, int x) {
            if (p < 2) {
                return 0;
            }
            long value = 0;
            for (int k = degree; k >= 0; k--) {
                value = Math.floorMod(value * x + numberAt(k), (long) p);
            }
            return (int) value;
        }

        private void fillTraces(int m) {
            for (int j = 0; j < traces.length; j++) {
                traces[j] = 0;
            }
            for (int d = 1; d <= m; d++) {
                if (Whole.goesInto(d, m)) {
                    long more = d * Whole.signOfPrimes(Whole.quotient(m, d));
                    for (int j = 0; j < m && j < traces.length; j += d) {
                        traces[j] += more;
                    }
                }
            }
        }

        private long traceAt(int j) {
            return j >= 0 && j < traces.length ? traces[j] : 0L;
        }

        /** Whether two SUMS are alike: then the first is like another one, as the RESTS carry each to each. */
        private boolean hasAlike(long group, int m) {
            long self = pairs(group, group, m);
            long left = Rests.all(m) & ~group;
            for (int r = 0; r < m; r++) {
                if (Rests.has(left, r)) {
                    long other = Rests.times(group, r, m);
                    // Twice the difference is the squared length of SUM less SUM, over all turns together.
                    if (self == pairs(group, other, m)) {
                        return true;
                    }
                    left &= ~other;
                }
            }
            return false;
        }

        /** The traces of all powers of z by one of a less one of b, together. */
        private long pairs(long a, long b, int m) {
            long all = 0;
            for (int r = 0; r < m; r++) {
                if (Rests.has(a, r)) {
                    for (int s = 0; s < m; s++) {
                        if (Rests.has(b, s)) {
                            all += traceAt(Whole.rest(r - s + m, m));
                        }
                    }
                }
            }
            return all;
        }

        private void fillTogether(long group, int m) {
            int size = Rests.size(group);
            for (int j = 0; j < power.length; j++) {
                power[j] = 0;
            }
            power[0] = 1;
            for (int k = 1; k <= degree && k < together.length; k++) {
                multiply(group, m);
                long trace = 0;
                for (int j = 0; j < m && j < power.length; j++) {
                    trace += power[j] * traceAt(j);
                }
                // All RESTS carry the first SUM to each SUM as often as the GROUP has RESTS.
                together[k] = size < 1 ? 0 : trace / size;
            }
        }

        private long powerAt(int j) {
            return j >= 0 && j < power.length ? power[j] : 0L;
        }

        /** The power times the first SUM. */
        private void multiply(long group, int m) {
            for (int j = 0; j < m && j < next.length; j++) {
                long often = 0;
                for (int r = 0; r < m; r++) {
                    if (Rests.has(group, r)) {
                        often += powerAt(Whole.rest(j - r + m, m));
                    }
                }
                next[j] = often;
            }
            for (int j = 0; j < m && j < next.length; j++) {
                power[j] = next[j];
            }
        }

        /** Newton: k times the number at X ^ (DEGREE - k) follows from those above it and the powers together. */
        private void fillNumbers() {
            numbers[0] = 1;
            for (int k = 1; k <= degree && k < numbers.length; k++) {
                long all = 0;
                for (int i = 1; i <= k; i++) {
                    all -= numbers[k - i] * together[i];
                }
                numbers[k] = all / k;
            }
        }
    }
}
