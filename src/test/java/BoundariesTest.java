import java.util.ArrayList;
import java.util.List;
import java.util.Objects;

/**
 * Each sentence of the document that names a boundary case, with a test of its own on both sides of the boundary: the
 * last value that is in, the first that is out, below 0, and the ends of int and long. No object is used for more than
 * 512 calls, as the document promises nothing beyond.
 */
public final class BoundariesTest {
    private static final int LEAST = Integer.MIN_VALUE;
    private static final int MOST = Integer.MAX_VALUE;
    private static final long NO_NUMBER = -9000000000000000000L;
    /** Also what a shift, a byte or a sign that is lost would take for an m. */
    private static final int[] NO_M = {LEAST, LEAST + 1, LEAST + 5, -257, -64, -63, -5, -2, -1, 0, 64, 65, 127, 128, 257, 261,
        65541, MOST - 1, MOST};
    private static final int[] NO_DEGREES = {LEAST, LEAST + 2, -8, -2, -1, 0, 9, 10, 16, 66, 258, MOST - 1, MOST};
    private static final int[] NO_PRIMES = {LEAST, LEAST + 2, -1009, -997, -13, -5, -3, -2, -1, 0, 1, 4, 6, 8, 9, 15, 25, 49,
        121, 169, 289, 361, 529, 841, 899, 961, 989, 991 + 2, 995, 996, 998, 999, 1000, 1007, 1009, 1013, 65537, MOST - 1, MOST};
    private static final int[] NO_IMAGES = {LEAST, LEAST + 1, LEAST + 2, -3, -2, -1, 3, 4, 5, 64, 256, 257, MOST - 1, MOST};
    private static final int[] NO_WHATS = {LEAST, LEAST + 1, -9, -2, -1, 6, 7, 64, 256, MOST - 1, MOST};
    /** The BARS of the first 40 FIELDS that make(m, 0) makes, m from 1 on: by 2, 6, 10 and so on there is no new one. */
    private static final int[] BARS = {1, 3, 4, 5, 7, 8, 9, 11, 12, 13, 15, 16, 17, 19, 20, 21, 23, 24, 25, 27, 28, 29, 31, 32,
        33, 35, 36, 37, 39, 40, 41, 43, 44, 45, 47, 48, 49, 51, 52, 53};

    private static int wrong = 0;
    private static int tests = 0;
    private static int wrongHere = 0;
    private static volatile String sentence = "";

    /** A call, with its arguments, on any object. */
    private interface Call {
        Object on(FieldsByClasses x);
    }

    public static void main(String[] args) {
        failAfter(120);
        everyOneOf512Calls();
        restsByOne();
        rationals();
        numbering();
        real();
        inertia();
        primes();
        listRanges();
        listOrder();
        degreesOfSums();
        newObject();
        restsOfAnotherM();
        factorNone();
        orderNone();
        makeNone();
        powersRange();
        powersNone();
        joinNone();
        meetNone();
        liesInFalse();
        tellNone();
        groupNone();
        partsNone();
        discriminantNone();
        listNone();
        listedNone();
        polynomialNone();
        rootsNone();
        countNone();
        clearedAll();
        imageFalse();
        againFalse();
        System.out.println(wrong == 0 ? tests + " sentences hold at their boundaries" : wrong + " answers are not as due");
        if (wrong != 0) {
            System.exit(1);
        }
    }

    /** A call that does not end must fail the test, not hold it up. */
    private static void failAfter(int seconds) {
        Thread guard = new Thread(() -> {
            try {
                Thread.sleep(1000L * seconds);
            } catch (InterruptedException e) {
                return;
            }
            System.out.println(sentence + "\n    "
                + "not at its end after " + seconds + " seconds");
            Runtime.getRuntime().halt(1);
        });
        guard.setDaemon(true);
        guard.start();
    }

    private static void test(String words) {
        sentence = words;
        tests++;
        wrongHere = 0;
    }

    private static void due(String call, Object got, Object want) {
        if (!Objects.equals(got, want)) {
            wrong++;
            wrongHere++;
            // Each sentence that is broken is told, but not at any length.
            if (wrongHere <= 5) {
                System.out.println(sentence + "\n    " + call + " answered " + got + ", due is " + want);
            }
        }
    }

    private static String call(String name, long... arguments) {
        StringBuilder text = new StringBuilder(name).append('(');
        for (int i = 0; i < arguments.length; i++) {
            text.append(i == 0 ? "" : ", ").append(arguments[i]);
        }
        return text.append(')').toString();
    }

    private static long bits(int... rests) {
        long all = 0;
        for (int r : rests) {
            all |= 1L << r;
        }
        return all;
    }

    private static int gcd(int a, int b) {
        return b == 0 ? a : gcd(b, a % b);
    }

    private static boolean isRest(int m, int r) {
        return r >= 0 && r < m && gcd(r, m) == 1;
    }

    private static long allRests(int m) {
        long all = 0;
        for (int r = 0; r < m; r++) {
            all |= isRest(m, r) ? 1L << r : 0L;
        }
        return all;
    }

    private static int howManyRests(int m) {
        return Long.bitCount(allRests(m));
    }

    private static boolean isPrime(int p) {
        boolean prime = p > 1;
        for (int d = 2; d < p && prime; d++) {
            prime = p % d != 0;
        }
        return prime;
    }

    /** So many FIELDS, all RESTS' own by BARS: number i has BARS[i] and the GROUP of 1 alone. */
    private static FieldsByClasses filled(int many) {
        FieldsByClasses x = new FieldsByClasses();
        for (int i = 0; i < many; i++) {
            due(call("make", BARS[i], 0), x.make(BARS[i], 0L), i);
        }
        return x;
    }

    /** So many FIELDS as filled() has, and the last one, of BAR 20, is that of the roots of -1 and of 5. */
    private static FieldsByClasses filledWithBoth(int many) {
        FieldsByClasses x = filled(many - 1);
        due("make(20, 1 9)", x.make(20, bits(1, 9)), many - 1);
        return x;
    }

    /** All that is told of the FIELDS made. */
    private static String told(FieldsByClasses x) {
        StringBuilder text = new StringBuilder();
        int many = x.count(0);
        text.append(many).append(" made, greatest ").append(x.count(1));
        for (int i = 0; i < many; i++) {
            text.append(", ").append(x.tell(i, 0)).append(':').append(x.group(i));
        }
        return text.toString();
    }

    /** Numbers that no FIELD has where so many are made. */
    private static int[] noNumbers(int made) {
        return new int[] {LEAST, LEAST + 1, -257, -256, -64, -41, -40, -2, -1, made, made + 1, 40, 41, 64, 256, 65536, MOST - 1,
            MOST};
    }

    // What it is

    private static void everyOneOf512Calls() {
        test("What it is: An object is used for at most 512 calls after it has been made; what later calls answer is free.");
        List<String> names = new ArrayList<>();
        List<Call> last = new ArrayList<>();
        List<Object> wants = new ArrayList<>();
        lastCalls(names, last, wants);
        for (int i = 0; i < last.size(); i++) {
            FieldsByClasses x = usedFor511Calls();
            due("call 512, " + names.get(i), last.get(i).on(x), wants.get(i));
        }
        manyAlike("rests(63)", x -> x.rests(63), 36);
        manyAlike("make(61, 0)", x -> x.make(61, 0L), 0);
        manyAlike("listed(8, 63, 30)", x -> x.listed(8, 63, 30), 0);
        manyAlike("list(4, 63)", x -> x.list(4, 63), 55);
        manyAlike("image(2)", x -> x.image(2), true);
        manyAlike("again(2)", x -> x.again(2), false);
        manyAlike("join(0, 0)", x -> x.join(0, 0), -1);
        FieldsByClasses x = new FieldsByClasses();
        for (int i = 0; i < 256; i++) {
            due("make, call " + (2 * i + 1), x.make(BARS[i % 40], 0L), 0);
            x.clear();
        }
    }

    private static void manyAlike(String name, Call one, Object want) {
        FieldsByClasses x = new FieldsByClasses();
        for (int i = 1; i <= 512; i++) {
            due("call " + i + ", " + name, one.on(x), want);
        }
    }

    /** All 40 are made, gone and made again, images are made; then two FIELDS stand, as image 0 does, and image 1 is empty. */
    private static FieldsByClasses usedFor511Calls() {
        FieldsByClasses x = new FieldsByClasses();
        int calls = 0;
        for (int round = 0; round < 6; round++) {
            for (int i = 0; i < 40; i++) {
                due("make in round " + round, x.make(BARS[i], 0L), i);
                due("tell in round " + round, x.tell(i, 0), BARS[i]);
                calls += 2;
            }
            x.image(round % 3);
            x.clear();
            calls += 2;
        }
        x.image(1);
        due("make(5, 0)", x.make(5, 0L), 0);
        due("powers(5, 2)", x.powers(5, 2), 1);
        x.image(0);
        calls += 4;
        for (; calls < 511; calls++) {
            due("rests(5)", x.rests(5), 4);
        }
        return x;
    }

    private static void lastCalls(List<String> names, List<Call> calls, List<Object> wants) {
        Object[][] rows = {
            {"rests(63)", (Call) x -> x.rests(63), 36}, {"factor(63, 1)", (Call) x -> x.factor(63, 1), 6},
            {"order(61, 2)", (Call) x -> x.order(61, 2), 60}, {"make(3, 0)", (Call) x -> x.make(3, 0L), 2},
            {"powers(7, 3)", (Call) x -> x.powers(7, 3), 2}, {"join(0, 1)", (Call) x -> x.join(0, 1), 0},
            {"meet(0, 1)", (Call) x -> x.meet(0, 1), 1}, {"liesIn(1, 0)", (Call) x -> x.liesIn(1, 0), true},
            {"tell(0, 5)", (Call) x -> x.tell(0, 5), 3}, {"group(1)", (Call) x -> x.group(1), bits(1, 4)},
            {"parts(1, 11, 2)", (Call) x -> x.parts(1, 11, 2), 2}, {"discriminant(0, 5)", (Call) x -> x.discriminant(0, 5), 3},
            {"list(2, 63)", (Call) x -> x.list(2, 63), 40}, {"listed(2, 63, 39)", (Call) x -> x.listed(2, 63, 39), 2},
            {"polynomial(1, 0)", (Call) x -> x.polynomial(1, 0), -1L}, {"roots(1, 11)", (Call) x -> x.roots(1, 11), 2},
            {"count(0)", (Call) x -> x.count(0), 2}, {"count(1)", (Call) x -> x.count(1), 5},
            {"image(2)", (Call) x -> x.image(2), true}, {"again(0)", (Call) x -> x.again(0), true},
            {"again(1)", (Call) x -> x.again(1), true}, {"rests(64)", (Call) x -> x.rests(64), -1},
            {"make(64, 0)", (Call) x -> x.make(64, 0L), -1}, {"group(2)", (Call) x -> x.group(2), -1L},
            {"again(3)", (Call) x -> x.again(3), false}};
        for (Object[] row : rows) {
            names.add((String) row[0]);
            calls.add((Call) row[1]);
            wants.add(row[2]);
        }
    }

    // Terms

    private static void restsByOne() {
        test("Terms 1: (of m 1: 0 alone)");
        FieldsByClasses x = new FieldsByClasses();
        due("rests(1)", x.rests(1), 1);
        due("factor(1, 0)", x.factor(1, 0), -1);
        due("order(1, 0)", x.order(1, 0), 1);
        due("order(1, 1)", x.order(1, 1), -1);
        due("order(1, -1)", x.order(1, -1), -1);
        due("make(1, bit 1)", x.make(1, 2L), -1);
        due("make(1, bits 0 1)", x.make(1, 3L), -1);
        due("make(1, bit 63)", x.make(1, Long.MIN_VALUE), -1);
        due("count(0)", x.count(0), 0);
        due("make(1, bit 0)", x.make(1, 1L), 0);
        due("make(1, 0)", x.make(1, 0L), 0);
        due("group(0)", x.group(0), 1L);
        due("powers(1, 1)", x.powers(1, 1), 0);
        // By 2 and on it is 1, and 0 is none of them.
        for (int m = 2; m <= 63; m++) {
            due(call("order", m, 0), x.order(m, 0), -1);
            due(call("order", m, 1), x.order(m, 1), 1);
            due(call("make", m, 1), x.make(m, 1L), -1);
        }
        due("make(2, bit 1)", x.make(2, 2L), 0);
        due("make(2, 0)", x.make(2, 0L), 0);
    }

    private static void rationals() {
        test("Terms 1: (The rationals: BAR 1.)");
        for (int m = 1; m <= 63; m++) {
            FieldsByClasses x = new FieldsByClasses();
            due("make(" + m + ", all)", x.make(m, allRests(m)), 0);
            due("tell(0, 0) of it", x.tell(0, 0), 1);
            due("tell(0, 1) of it", x.tell(0, 1), 1);
            due("group(0) of it", x.group(0), 1L);
            due("count(1)", x.count(1), 1);
            due(call("powers", m, 1), x.powers(m, 1), 0);
            due("listed(1, 63, 0)", x.listed(1, 63, 0), 0);
            due("make(1, 0)", x.make(1, 0L), 0);
            // No other FIELD has BAR 1, nor any BAR 2.
            int bar = m % 4 == 2 ? m / 2 : m;
            x.clear();
            due(call("make", m, 0), x.make(m, 0L), 0);
            due("tell(0, 0) of it", x.tell(0, 0), bar);
            due("group(0) of it", x.group(0), bar == 1 ? 1L : 2L);
        }
    }

    private static void numbering() {
        test("Terms 1: FIELDS that are made are numbered, at most 40, from 0 on, as they came; one that is there already is that"
            + " one.");
        FieldsByClasses x = filled(39);
        due("count(0) of 39", x.count(0), 39);
        due("group(39) of 39", x.group(39), -1L);
        due("the 40th", x.make(53, 0L), 39);
        due("count(0) of 40", x.count(0), 40);
        due("group(39) of 40", x.group(39), 2L);
        String before = told(x);
        due("the 41st", x.make(55, 0L), -1);
        due("the 41st anew", x.make(55, 0L), -1);
        due("the 41st by another m", x.make(56, 0L), -1);
        due("group(40)", x.group(40), -1L);
        for (int i = 0; i < 40; i++) {
            due("there already, " + call("make", BARS[i], 0), x.make(BARS[i], 0L), i);
            due(call("tell", i, 0), x.tell(i, 0), BARS[i]);
        }
        due("there already, by 6", x.make(6, 0L), 1);
        due("there already, by 62", x.make(62, 0L), 22);
        due("there already, by 46", x.make(46, 0L), 16);
        due("all that is told", told(x), before);
        FieldsByClasses y = new FieldsByClasses();
        for (int i = 39; i >= 0; i--) {
            due("as they came, " + call("make", BARS[i], 0), y.make(BARS[i], 0L), 39 - i);
        }
        due("as they came, tell(0, 0)", y.tell(0, 0), 53);
        due("as they came, tell(39, 0)", y.tell(39, 0), 1);
        FieldsByClasses z = new FieldsByClasses();
        due("two of one BAR", z.make(8, bits(1, 3)), 0);
        due("two of one BAR", z.make(8, bits(1, 7)), 1);
        due("two of one BAR", z.make(8, bits(3)), 0);
        due("the same bits by two BARS", z.make(5, 0L), 2);
        due("the same bits by two BARS", z.make(7, 0L), 3);
        due("the same bits by two BARS", z.make(5, 0L), 2);
    }

    private static void real() {
        test("Terms 2: It is REAL if its GROUP has m - 1 (of BAR 1, too).");
        FieldsByClasses x = new FieldsByClasses();
        x.make(1, 0L);
        due("BAR 1", x.tell(0, 2), 1);
        due("its SIGN", x.tell(0, 4), 1);
        for (int m = 3; m <= 63; m++) {
            if (m % 4 != 2) {
                x.clear();
                x.make(m, 0L);
                due("REAL, " + call("make", m, 0), x.tell(0, 2), 0);
                x.clear();
                x.make(m, bits(m - 1));
                due("REAL, make(" + m + ", m - 1)", x.tell(0, 2), 1);
            }
        }
        for (int degree = 1; degree <= 8; degree++) {
            FieldsByClasses y = new FieldsByClasses();
            int many = y.list(degree, 63);
            for (int k = 0; k < many; k++) {
                y.listed(degree, 63, k);
                int bar = y.tell(0, 0);
                due("REAL, " + call("listed", degree, 63, k), y.tell(0, 2), (int) (y.group(0) >> (bar - 1) & 1L));
                y.clear();
            }
        }
    }

    private static void inertia() {
        test("Terms 2: INERTIA are the RESTS by m that are 1 by n (all of them, if n is 1)");
        for (int m = 1; m <= 63; m++) {
            if (m % 4 == 2) {
                continue;
            }
            FieldsByClasses x = new FieldsByClasses();
            x.make(m, 0L);
            for (int p = 2; p <= 67; p++) {
                if (isPrime(p)) {
                    int n = m;
                    while (n % p == 0) {
                        n /= p;
                    }
                    // The GROUP is 1 alone, so e is how many INERTIA there are.
                    due("of BAR " + m + ", " + call("parts", 0, p, 0), x.parts(0, p, 0), howManyRests(m) / howManyRests(n));
                    if (n == 1) {
                        due("of BAR " + m + ", " + call("parts", 0, p, 1), x.parts(0, p, 1), 1);
                        due("of BAR " + m + ", " + call("parts", 0, p, 2), x.parts(0, p, 2), 1);
                    }
                }
            }
        }
        int[][] due = {{1, 2, 1}, {4, 2, 2}, {3, 3, 2}, {8, 2, 4}, {9, 3, 6}, {32, 2, 16}, {27, 3, 18}, {49, 7, 42}, {61, 61, 60},
            {12, 2, 2}, {12, 3, 2}, {60, 2, 2}, {60, 5, 4}, {63, 3, 6}, {63, 7, 6}, {63, 2, 1}, {61, 59, 1}};
        for (int[] row : due) {
            FieldsByClasses x = new FieldsByClasses();
            x.make(row[0], 0L);
            due("of BAR " + row[0] + ", " + call("parts", 0, row[1], 0), x.parts(0, row[1], 0), row[2]);
        }
        FieldsByClasses y = new FieldsByClasses();
        y.powers(61, 5);
        due("n 1, a GROUP of more", y.parts(0, 61, 0), 5);
        y.make(16, bits(15));
        due("n 1, a GROUP of more", y.parts(1, 2, 0), 4);
    }

    private static void primes() {
        test("Terms 2: A prime p, 2 .. 997");
        for (int p = -1100; p <= 1100; p++) {
            FieldsByClasses x = new FieldsByClasses();
            x.make(1, 0L);
            x.make(4, 0L);
            boolean in = p >= 2 && p <= 997 && isPrime(p);
            int f = p == 2 || p % 4 == 1 ? 1 : 2;
            due(call("parts", 0, p, 0), x.parts(0, p, 0), in ? 1 : -1);
            due(call("parts", 1, p, 0), x.parts(1, p, 0), in ? p == 2 ? 2 : 1 : -1);
            due(call("parts", 1, p, 1), x.parts(1, p, 1), in ? f : -1);
            due(call("discriminant", 1, p), x.discriminant(1, p), in ? p == 2 ? 2 : 0 : -1);
            due(call("roots", 0, p), x.roots(0, p), in ? 1 : -1);
            due(call("roots", 1, p), x.roots(1, p), in ? p == 2 ? 1 : f == 1 ? 2 : 0 : -1);
        }
        FieldsByClasses y = filled(3);
        for (int p : NO_PRIMES) {
            due(call("parts", 1, p, 0), y.parts(1, p, 0), -1);
            due(call("discriminant", 1, p), y.discriminant(1, p), -1);
            due(call("roots", 1, p), y.roots(1, p), -1);
        }
    }

    private static void listRanges() {
        test("Terms 3: LIST of a DEGREE, 1 .. 8, and a bound, 1 .. 63");
        int[] up63 = {1, 40, 10, 55, 5, 36, 3, 31};
        int[] leastBars = {1, 3, 7, 5, 11, 7, 29, 15};
        for (int degree = 1; degree <= 8; degree++) {
            FieldsByClasses x = new FieldsByClasses();
            int least = leastBars[degree - 1];
            due(call("list", degree, 1), x.list(degree, 1), degree == 1 ? 1 : 0);
            due(call("list", degree, 63), x.list(degree, 63), up63[degree - 1]);
            due(call("list", degree, 64), x.list(degree, 64), -1);
            due(call("list", degree, 0), x.list(degree, 0), -1);
            due("the first, " + call("list", degree, least), x.list(degree, least) > 0, true);
            due("the first, " + call("listed", degree, least, 0), x.listed(degree, least, 0), 0);
            due("its BAR", x.tell(0, 0), least);
            due("its DEGREE", x.tell(0, 1), degree);
            if (least > 1) {
                due("none yet, " + call("list", degree, least - 1), x.list(degree, least - 1), 0);
                due("none yet, " + call("listed", degree, least - 1, 0), x.listed(degree, least - 1, 0), -1);
            }
        }
        FieldsByClasses y = new FieldsByClasses();
        for (int bound = 1; bound <= 63; bound++) {
            due(call("list", 1, bound), y.list(1, bound), 1);
            due(call("list", 0, bound), y.list(0, bound), -1);
            due(call("list", 9, bound), y.list(9, bound), -1);
        }
    }

    private static void listOrder() {
        test("Terms 3: by BARS, then by their bits as numbers (0 or above)");
        FieldsByClasses x = new FieldsByClasses();
        due("listed(2, 8, 3)", x.listed(2, 8, 3), 0);
        due("listed(2, 8, 4)", x.listed(2, 8, 4), 1);
        due("listed(2, 8, 5)", x.listed(2, 8, 5), 2);
        due("BAR 7 comes before 8, with more bits", x.group(0), bits(1, 2, 4));
        due("of BAR 8, the lesser", x.group(1), bits(1, 3));
        due("of BAR 8, the greater", x.group(2), bits(1, 7));
        for (int degree = 1; degree <= 8; degree++) {
            FieldsByClasses y = new FieldsByClasses();
            int many = y.list(degree, 63);
            int bar = 0;
            long last = -1;
            for (int k = 0; k < many; k++) {
                String name = call("listed", degree, 63, k);
                y.listed(degree, 63, k);
                int nextBar = y.tell(0, 0);
                long next = y.group(0);
                due("0 or above, " + name, next > 0, true);
                due("in order, " + name, nextBar > bar || nextBar == bar && next > last, true);
                bar = nextBar;
                last = next;
                y.clear();
            }
        }
        // Bit 62 is the last that a GROUP may have: with it the bits are still above 0, and greater than without.
        FieldsByClasses z = new FieldsByClasses();
        due("listed(2, 63, 40)", z.listed(2, 63, 40), -1);
        due("listed(3, 63, 9)", z.listed(3, 63, 9), 0);
        due("its BAR", z.tell(0, 0), 63);
        due("it has bit 62", z.group(0) > bits(62), true);
    }

    private static void degreesOfSums() {
        test("Terms 4: SUMS of a FIELD of DEGREE d, 1 .. 8");
        for (int k = 1; k <= 60; k++) {
            FieldsByClasses x = new FieldsByClasses();
            x.powers(61, k);
            int degree = gcd(k, 60);
            due("DEGREE of " + call("powers", 61, k), x.tell(0, 1), degree);
            due("of DEGREE " + degree + ", first", x.polynomial(0, degree), degree <= 8 ? 1L : NO_NUMBER);
            due("of DEGREE " + degree + ", below it", x.polynomial(0, degree - 1),
                degree == 1 ? -1L : degree <= 8 ? 1L : NO_NUMBER);
            due("of DEGREE " + degree + ", above it", x.polynomial(0, degree + 1), NO_NUMBER);
            due("of DEGREE " + degree + ", roots", x.roots(0, 61), degree <= 8 ? 1 : -1);
        }
        FieldsByClasses y = new FieldsByClasses();
        y.make(15, 0L);
        due("DEGREE 8", y.polynomial(0, 8), 1L);
        due("DEGREE 8", y.polynomial(0, 7), -1L);
        due("DEGREE 8", y.roots(0, 31), 8);
        y.powers(17, 8);
        due("DEGREE 8", y.polynomial(1, 7), 1L);
        y.powers(19, 9);
        due("DEGREE 9", y.polynomial(2, 0), NO_NUMBER);
        due("DEGREE 9", y.polynomial(2, 8), NO_NUMBER);
        due("DEGREE 9", y.polynomial(2, 9), NO_NUMBER);
        due("DEGREE 9", y.roots(2, 37), -1);
    }

    // Promises

    private static void newObject() {
        test("Promise 1: No FIELDS; no images.");
        FieldsByClasses used = filled(40);
        used.image(0);
        used.image(1);
        used.image(2);
        FieldsByClasses x = new FieldsByClasses();
        for (int k = -1; k <= 3; k++) {
            due(call("again", k), x.again(k), false);
        }
        due("count(0)", x.count(0), 0);
        due("count(1)", x.count(1), 0);
        for (int i = 0; i < 40; i++) {
            due(call("group", i), x.group(i), -1L);
            due(call("tell", i, 0), x.tell(i, 0), -9);
        }
        due("liesIn(0, 0)", x.liesIn(0, 0), false);
        due("join(0, 0)", x.join(0, 0), -1);
        due("meet(0, 0)", x.meet(0, 0), -1);
        due("parts(0, 2, 0)", x.parts(0, 2, 0), -1);
        due("discriminant(0, 2)", x.discriminant(0, 2), -1);
        due("polynomial(0, 0)", x.polynomial(0, 0), NO_NUMBER);
        due("roots(0, 2)", x.roots(0, 2), -1);
        due("the first FIELD", x.make(61, 0L), 0);
        due("count(0)", x.count(0), 1);
        due("group(0)", x.group(0), 2L);
        due("the first image", x.image(1), true);
        due("again(0)", x.again(0), false);
        due("again(1)", x.again(1), true);
        due("again(2)", x.again(2), false);
        due("the other object", used.count(0), 40);
    }

    private static void restsOfAnotherM() {
        test("Promise 2: NONE for another m.");
        FieldsByClasses x = new FieldsByClasses();
        for (int m = 1; m <= 63; m++) {
            due(call("rests", m), x.rests(m), howManyRests(m));
        }
        due("rests(1)", x.rests(1), 1);
        due("rests(63)", x.rests(63), 36);
        for (int m : NO_M) {
            due(call("rests", m), x.rests(m), -1);
        }
    }

    private static void factorNone() {
        test("Promise 3: NONE if there is none such.");
        int[] noK = {LEAST, LEAST + 1, -4, -3, -2, -1, 3, 4, 5, 63, 64, 256, MOST - 1, MOST};
        for (int m = 1; m <= 63; m++) {
            FieldsByClasses x = new FieldsByClasses();
            int product = 1;
            int last = 1;
            int many = 0;
            for (; many < 3 && product < howManyRests(m); many++) {
                int next = x.factor(m, many);
                due(call("factor", m, many) + " is above 1", next > 1, true);
                due(call("factor", m, many) + " is a multiple of the one before", next % last, 0);
                product *= next;
                last = next;
            }
            due("all factors of " + m + " together", product, howManyRests(m));
            due("one past the last, " + call("factor", m, many), x.factor(m, many), -1);
            for (int k : noK) {
                due(call("factor", m, k), x.factor(m, k), -1);
            }
        }
        FieldsByClasses y = new FieldsByClasses();
        due("factor(24, 2)", y.factor(24, 2), 2);
        due("factor(24, 3)", y.factor(24, 3), -1);
        due("factor(2, 0)", y.factor(2, 0), -1);
        due("factor(3, 0)", y.factor(3, 0), 2);
        for (int m : NO_M) {
            due(call("factor", m, 0), y.factor(m, 0), -1);
            due(call("factor", m, 1), y.factor(m, 1), -1);
            due(call("factor", m, -1), y.factor(m, -1), -1);
        }
    }

    private static void orderNone() {
        test("Promise 4: NONE: m is not 1 .. 63, or r is none of its RESTS.");
        int[] noR = {LEAST, LEAST + 1, -128, -127, -64, -63, -62, -2, -1, 63, 64, 65, 127, 129, 257, 65537, MOST - 1, MOST};
        for (int m = 1; m <= 63; m++) {
            FieldsByClasses x = new FieldsByClasses();
            for (int r = -1; r <= 65; r++) {
                due(call("order", m, r) + " is NONE", x.order(m, r) == -1, !isRest(m, r));
            }
            for (int r : noR) {
                due(call("order", m, r), x.order(m, r), -1);
            }
            // What is one of them by m, but not among 0 .. m - 1.
            due(call("order", m, m + 1), x.order(m, m + 1), -1);
            due(call("order", m, 1 - m), x.order(m, 1 - m), m == 1 ? 1 : -1);
        }
        FieldsByClasses y = new FieldsByClasses();
        due("order(63, 62)", y.order(63, 62), 2);
        due("order(63, 63)", y.order(63, 63), -1);
        due("order(1, 0)", y.order(1, 0), 1);
        for (int m : NO_M) {
            due(call("order", m, 0), y.order(m, 0), -1);
            due(call("order", m, 1), y.order(m, 1), -1);
            due(call("order", m, -1), y.order(m, -1), -1);
            due(call("order", m, m), y.order(m, m), -1);
        }
    }

    private static void makeNone() {
        test("Promise 5: NONE: another m, a bit that is no RESTS, or there would be 41.");
        for (int m = 1; m <= 63; m++) {
            FieldsByClasses x = new FieldsByClasses();
            int refused = 0;
            for (int r = 0; r < 64; r++) {
                if (isRest(m, r)) {
                    due("make(" + m + ", bit " + r + ") is a number", x.make(m, 1L << r) >= 0, true);
                } else {
                    due("make(" + m + ", bit " + r + ")", x.make(m, 1L << r), -1);
                    due("make(" + m + ", all and bit " + r + ")", x.make(m, allRests(m) | 1L << r), -1);
                    refused++;
                }
            }
            due("bits refused by " + m, refused, 64 - howManyRests(m));
            due("make(" + m + ", all) is a number", x.make(m, allRests(m)) >= 0, true);
            due("make(" + m + ", 0) is a number", x.make(m, 0L) >= 0, true);
            String before = told(x);
            for (long wrongBits : new long[] {Long.MIN_VALUE, Long.MIN_VALUE + 1, Long.MIN_VALUE + 2, -2L, -1L, Long.MAX_VALUE,
                Long.MAX_VALUE - 1, allRests(m) | Long.MIN_VALUE, ~allRests(m), 1L << m}) {
                due(call("make", m, wrongBits), x.make(m, wrongBits), -1);
            }
            due("all that is told", told(x), before);
        }
        FieldsByClasses y = filled(2);
        for (int m : NO_M) {
            for (long some : new long[] {0L, 1L, 2L, 3L, Long.MIN_VALUE, -1L, Long.MAX_VALUE}) {
                due(call("make", m, some), y.make(m, some), -1);
            }
        }
        due("count(0)", y.count(0), 2);
        FieldsByClasses z = filled(39);
        due("the 40th", z.make(63, bits(62)), 39);
        due("the 41st", z.make(63, 0L), -1);
        due("the 41st", z.make(61, 0L), -1);
        due("there already", z.make(63, bits(62)), 39);
        due("there already", z.make(3, 0L), 1);
        due("count(0)", z.count(0), 40);
        z.clear();
        due("there is room again", z.make(63, 0L), 0);
    }

    private static void powersRange() {
        test("Promise 6: (k 1 .. 60)");
        for (int k = 1; k <= 60; k++) {
            FieldsByClasses x = new FieldsByClasses();
            due(call("powers", 61, k), x.powers(61, k), 0);
            due("DEGREE of " + call("powers", 61, k), x.tell(0, 1), gcd(k, 60));
            due(call("powers", 63, k), x.powers(63, k) >= 0, true);
            due(call("powers", 1, k), x.powers(1, k) >= 0, true);
        }
        FieldsByClasses y = new FieldsByClasses();
        due("powers(61, 0)", y.powers(61, 0), -1);
        due("powers(61, 61)", y.powers(61, 61), -1);
        due("powers(61, 1)", y.powers(61, 1), 0);
        due("powers(61, 60)", y.powers(61, 60), 1);
        due("group(0)", y.group(0), 1L);
        due("group(1)", y.group(1), 2L);
    }

    private static void powersNone() {
        test("Promise 6: NONE for another k, too.");
        FieldsByClasses x = filled(3);
        String before = told(x);
        int[] noK = {LEAST, LEAST + 1, LEAST + 2, -61, -60, -2, -1, 0, 61, 62, 63, 64, 120, 258, MOST - 1, MOST};
        for (int k : noK) {
            for (int m : new int[] {1, 2, 3, 5, 61, 62, 63}) {
                due(call("powers", m, k), x.powers(m, k), -1);
            }
        }
        for (int m : NO_M) {
            for (int k : new int[] {1, 2, 60, 0, 61}) {
                due(call("powers", m, k), x.powers(m, k), -1);
            }
        }
        due("all that is told", told(x), before);
        FieldsByClasses y = filled(39);
        due("the 40th", y.powers(61, 2), 39);
        due("the 41st", y.powers(61, 60), -1);
        due("the 41st", y.powers(5, 2), -1);
        due("there already", y.powers(61, 58), 39);
        due("there already", y.powers(5, 4), 3);
        due("there already", y.powers(63, 1), 0);
        due("count(0)", y.count(0), 40);
    }

    private static void joinNone() {
        test("Promise 7: NONE: there are none such, the least m that both BARS go into is above 63, or there would be 41.");
        bothMustBe("join", (x, a, b) -> x.join(a, b));
        FieldsByClasses x = filled(40);
        x.clear();
        int[] bars = {7, 9, 5, 13, 4, 17, 61, 1, 3, 20};
        for (int i = 0; i < bars.length; i++) {
            x.make(bars[i], 0L);
        }
        due("just 63", x.join(0, 1), 10);
        due("its BAR", x.tell(10, 0), 63);
        due("65, the first above", x.join(2, 3), -1);
        due("68", x.join(4, 5), -1);
        due("180", x.join(1, 9), -1);
        due("just 61, with itself", x.join(6, 6), 6);
        due("just 61, with BAR 1", x.join(6, 7), 6);
        due("just 63, with BAR 1", x.join(7, 10), 10);
        due("just 63, with what goes into it", x.join(10, 8), 10);
        due("61 times 63", x.join(10, 6), -1);
        due("just 60", x.join(8, 9), 11);
        due("its BAR", x.tell(11, 0), 60);
        due("both 60 and 63 go into 1260", x.join(10, 11), -1);
        due("count(0)", x.count(0), 12);
        FieldsByClasses y = filled(39);
        due("the 40th", y.join(4, 5), 39);
        due("its BAR", y.tell(39, 0), 56);
        due("the 41st, 55", y.join(3, 7), -1);
        due("the 41st, 63", y.join(4, 6), -1);
        due("there already", y.join(4, 5), 39);
        due("there already", y.join(1, 2), 8);
        due("count(0)", y.count(0), 40);
    }

    private static void meetNone() {
        test("Promise 8: NONE as join().");
        bothMustBe("meet", (x, a, b) -> x.meet(a, b));
        FieldsByClasses x = new FieldsByClasses();
        int[] bars = {1, 7, 9, 5, 13, 4, 17, 61, 63, 20};
        for (int i = 0; i < bars.length; i++) {
            x.make(bars[i], 0L);
        }
        due("just 63", x.meet(1, 2), 0);
        due("just 63, with itself", x.meet(8, 8), 8);
        due("just 63, with what goes into it", x.meet(8, 2), 2);
        due("65, though what is met is there", x.meet(3, 4), -1);
        due("68, though what is met is there", x.meet(5, 6), -1);
        due("61 times 63", x.meet(7, 8), -1);
        due("180", x.meet(2, 9), -1);
        due("just 61, with BAR 1", x.meet(7, 0), 0);
        due("just 20", x.meet(9, 3), 3);
        due("count(0)", x.count(0), 10);
        FieldsByClasses y = filledWithBoth(39);
        due("the 40th", y.meet(38, 3), 39);
        due("its GROUP", y.group(39), bits(1, 4));
        due("its BAR", y.tell(39, 0), 5);
        FieldsByClasses z = filledWithBoth(40);
        String before = told(z);
        due("the 41st", z.meet(39, 3), -1);
        due("the 41st", z.meet(3, 39), -1);
        due("there already", z.meet(39, 2), 2);
        due("there already", z.meet(39, 39), 39);
        due("there already", z.meet(1, 2), 0);
        due("all that is told", told(z), before);
    }

    /** A call of two FIELDS. */
    private interface OfTwo {
        int on(FieldsByClasses x, int a, int b);
    }

    private static void bothMustBe(String name, OfTwo both) {
        for (int made : new int[] {0, 1, 3, 40}) {
            FieldsByClasses x = filled(made);
            String before = told(x);
            for (int none : noNumbers(made)) {
                due("of " + made + ", " + call(name, none, 0), both.on(x, none, 0), -1);
                due("of " + made + ", " + call(name, 0, none), both.on(x, 0, none), -1);
                due("of " + made + ", " + call(name, none, none), both.on(x, none, none), -1);
            }
            if (made > 0) {
                int last = made - 1;
                due("of " + made + ", " + call(name, last, last), both.on(x, last, last), last);
                due("of " + made + ", " + call(name, 0, 0), both.on(x, 0, 0), 0);
                due("of " + made + ", " + call(name, last, made), both.on(x, last, made), -1);
                due("of " + made + ", " + call(name, made, last), both.on(x, made, last), -1);
            }
            due("of " + made + ", all that is told", told(x), before);
        }
    }

    private static void liesInFalse() {
        test("Promise 9: False, too, if there are none such.");
        for (int made : new int[] {0, 1, 3, 40}) {
            FieldsByClasses x = filled(made);
            for (int none : noNumbers(made)) {
                due("of " + made + ", " + call("liesIn", none, 0), x.liesIn(none, 0), false);
                due("of " + made + ", " + call("liesIn", 0, none), x.liesIn(0, none), false);
                due("of " + made + ", " + call("liesIn", none, none), x.liesIn(none, none), false);
            }
            for (int i = 0; i < made; i++) {
                due("of " + made + ", " + call("liesIn", i, i), x.liesIn(i, i), true);
                due("of " + made + ", " + call("liesIn", 0, i), x.liesIn(0, i), true);
                due("of " + made + ", " + call("liesIn", i, 0), x.liesIn(i, 0), i == 0);
            }
        }
        // What is joined may have no number, or no m: it is answered, and nothing is made.
        for (int made : new int[] {10, 39, 40}) {
            liesInMakesNone(filled(made));
        }
    }

    private static void liesInMakesNone(FieldsByClasses y) {
        String before = told(y);
        due("3 in 12", y.liesIn(1, 8), true);
        due("12 in 3", y.liesIn(8, 1), false);
        due("7 in 8, joined by 56", y.liesIn(4, 5), false);
        due("13 in 5, joined by 65", y.liesIn(9, 3), false);
        due("7 in 9, joined by 63", y.liesIn(4, 6), false);
        due("all that is told", told(y), before);
    }

    private static void tellNone() {
        test("Promise 10: -9 if there is none such, or for another what.");
        for (int made : new int[] {0, 1, 3, 40}) {
            FieldsByClasses x = filled(made);
            for (int none : noNumbers(made)) {
                for (int what = -1; what <= 6; what++) {
                    due("of " + made + ", " + call("tell", none, what), x.tell(none, what), -9);
                }
            }
            if (made > 0) {
                due("of " + made + ", the last", x.tell(made - 1, 0), BARS[made - 1]);
                due("of " + made + ", the last", x.tell(made - 1, 1), howManyRests(BARS[made - 1]));
                for (int what : NO_WHATS) {
                    due("of " + made + ", " + call("tell", 0, what), x.tell(0, what), -9);
                    due("of " + made + ", " + call("tell", made - 1, what), x.tell(made - 1, what), -9);
                    due("of " + made + ", " + call("tell", made, what), x.tell(made, what), -9);
                }
            }
        }
        FieldsByClasses y = new FieldsByClasses();
        y.make(7, 0L);
        int[] all = {-9, 7, 6, 0, 1, -1, 4, -9};
        for (int what = -1; what <= 6; what++) {
            due(call("tell", 0, what), y.tell(0, what), all[what + 1]);
        }
    }

    private static void groupNone() {
        test("Promise 11: -1: there is none such.");
        for (int made : new int[] {0, 1, 3, 39, 40}) {
            FieldsByClasses x = filled(made);
            for (int none : noNumbers(made)) {
                due("of " + made + ", " + call("group", none), x.group(none), -1L);
            }
            for (int i = 0; i < made; i++) {
                due("of " + made + ", " + call("group", i), x.group(i), i == 0 ? 1L : 2L);
            }
        }
        FieldsByClasses y = new FieldsByClasses();
        y.make(63, bits(62));
        due("with the last bit", y.group(0), bits(1, 62));
    }

    private static void partsNone() {
        test("Promise 12: NONE: there is no such FIELD, p is no prime, or above 997, or for another what.");
        for (int made : new int[] {0, 1, 3, 40}) {
            FieldsByClasses x = filled(made);
            for (int none : noNumbers(made)) {
                for (int what = 0; what <= 2; what++) {
                    due("of " + made + ", " + call("parts", none, 2, what), x.parts(none, 2, what), -1);
                    due("of " + made + ", " + call("parts", none, 997, what), x.parts(none, 997, what), -1);
                }
            }
            if (made > 0) {
                due("of " + made + ", the last", x.parts(made - 1, 2, 0), made == 3 ? 2 : 1);
            }
        }
        FieldsByClasses y = filled(40);
        due("parts(39, 53, 0)", y.parts(39, 53, 0), 52);
        due("parts(3, 2, 1)", y.parts(3, 2, 1), 4);
        due("parts(3, 997, 0)", y.parts(3, 997, 0), 1);
        due("parts(3, 997, 1)", y.parts(3, 997, 1), 4);
        due("parts(3, 997, 2)", y.parts(3, 997, 2), 1);
        for (int p : NO_PRIMES) {
            for (int what = 0; what <= 2; what++) {
                due(call("parts", 3, p, what), y.parts(3, p, what), -1);
            }
        }
        for (int what : new int[] {LEAST, LEAST + 1, -3, -2, -1, 3, 4, 5, 256, MOST - 1, MOST}) {
            for (int p : new int[] {2, 5, 997}) {
                due(call("parts", 3, p, what), y.parts(3, p, what), -1);
                due(call("parts", 0, p, what), y.parts(0, p, what), -1);
            }
        }
    }

    private static void discriminantNone() {
        test("Promise 13: NONE: there is no such FIELD, or p is no prime of 2 .. 997.");
        for (int made : new int[] {0, 1, 3, 40}) {
            FieldsByClasses x = filled(made);
            for (int none : noNumbers(made)) {
                for (int p : new int[] {2, 3, 997, 1, 998}) {
                    due("of " + made + ", " + call("discriminant", none, p), x.discriminant(none, p), -1);
                }
            }
            if (made > 0) {
                due("of " + made + ", the last", x.discriminant(made - 1, 2), made == 3 ? 2 : 0);
                due("of " + made + ", the last", x.discriminant(made - 1, 53), made == 40 ? 51 : 0);
                due("of " + made + ", the last", x.discriminant(made - 1, 997), 0);
            }
        }
        FieldsByClasses y = filled(40);
        due("discriminant(2, 2)", y.discriminant(2, 2), 2);
        due("discriminant(0, 2)", y.discriminant(0, 2), 0);
        due("discriminant(2, 997)", y.discriminant(2, 997), 0);
        for (int p : NO_PRIMES) {
            due(call("discriminant", 0, p), y.discriminant(0, p), -1);
            due(call("discriminant", 2, p), y.discriminant(2, p), -1);
            due(call("discriminant", 39, p), y.discriminant(39, p), -1);
        }
    }

    private static void listNone() {
        test("Promise 14: NONE: another DEGREE or bound.");
        FieldsByClasses x = filled(2);
        for (int degree : NO_DEGREES) {
            for (int bound : new int[] {1, 5, 63, 0, 64}) {
                due(call("list", degree, bound), x.list(degree, bound), -1);
            }
        }
        for (int bound : NO_M) {
            for (int degree : new int[] {1, 2, 8, 0, 9}) {
                due(call("list", degree, bound), x.list(degree, bound), -1);
            }
        }
        due("list(1, 1)", x.list(1, 1), 1);
        due("list(8, 1)", x.list(8, 1), 0);
        due("list(1, 63)", x.list(1, 63), 1);
        due("list(8, 63)", x.list(8, 63), 31);
        due("list(8, 62)", x.list(8, 62), 31);
        due("list(6, 62)", x.list(6, 62), 28);
        due("list(6, 63)", x.list(6, 63), 36);
        due("nothing is made", told(x), "2 made, greatest 3, 1:1, 3:2");
        FieldsByClasses y = filled(40);
        due("asked of 40", y.list(2, 63), 40);
        due("asked of 40", y.count(0), 40);
    }

    private static void listedNone() {
        test("Promise 15: NONE: there is none such, or there would be 41.");
        FieldsByClasses x = filled(2);
        String before = told(x);
        int[] noK = {LEAST, LEAST + 1, -64, -40, -2, -1, 64, 256, MOST - 1, MOST};
        for (int degree = 1; degree <= 8; degree++) {
            for (int bound : new int[] {1, 63}) {
                due("one past the last", x.listed(degree, bound, x.list(degree, bound)), -1);
                for (int k : noK) {
                    due(call("listed", degree, bound, k), x.listed(degree, bound, k), -1);
                }
            }
        }
        due("all that is told", told(x), before);
        FieldsByClasses none = filled(2);
        for (int degree : NO_DEGREES) {
            for (int bound : new int[] {1, 63, 0, 64}) {
                due(call("listed", degree, bound, 0), none.listed(degree, bound, 0), -1);
            }
        }
        for (int bound : NO_M) {
            for (int degree : new int[] {1, 2, 8, 0, 9}) {
                due(call("listed", degree, bound, 0), none.listed(degree, bound, 0), -1);
                due(call("listed", degree, bound, -1), none.listed(degree, bound, -1), -1);
            }
        }
        due("all that is told", told(none), before);
        FieldsByClasses y = new FieldsByClasses();
        int[] lasts = {0, 39, 9, 54, 4, 35, 2, 30};
        for (int degree = 1; degree <= 8; degree++) {
            int last = lasts[degree - 1];
            due("the last, " + call("listed", degree, 63, last), y.listed(degree, 63, last), degree - 1);
            due("its DEGREE", y.tell(degree - 1, 1), degree);
            due("one more, " + call("listed", degree, 63, last + 1), y.listed(degree, 63, last + 1), -1);
            due("there already, " + call("listed", degree, 63, last), y.listed(degree, 63, last), degree - 1);
        }
        FieldsByClasses z = filled(39);
        due("the 40th", z.listed(2, 63, 2), 39);
        due("its GROUP", z.group(39), bits(1, 4));
        due("the 41st", z.listed(2, 63, 3), -1);
        due("the 41st", z.listed(8, 63, 30), -1);
        due("there already", z.listed(2, 63, 2), 39);
        due("there already", z.listed(1, 63, 0), 0);
        due("there already", z.listed(8, 15, 0), 10);
        due("count(0)", z.count(0), 40);
    }

    private static void polynomialNone() {
        test("Promise 16: -9000000000000000000 if there is none such (FIELD, POLYNOMIAL, k), or its DEGREE is above 8.");
        for (int made : new int[] {0, 1, 3, 40}) {
            FieldsByClasses x = filled(made);
            for (int none : noNumbers(made)) {
                for (int k : new int[] {-1, 0, 1, 8, 9}) {
                    due("of " + made + ", " + call("polynomial", none, k), x.polynomial(none, k), NO_NUMBER);
                }
            }
            for (int i = 0; i < made; i++) {
                int degree = howManyRests(BARS[i]);
                due("of DEGREE " + degree + ", first", x.polynomial(i, degree), degree <= 8 ? 1L : NO_NUMBER);
                due("of DEGREE " + degree + ", last", x.polynomial(i, 0), degree > 8 ? NO_NUMBER : i == 0 ? -1L : 1L);
                due("of DEGREE " + degree + ", past the first", x.polynomial(i, degree + 1), NO_NUMBER);
                due("of DEGREE " + degree + ", past the last", x.polynomial(i, -1), NO_NUMBER);
            }
        }
        int[] noK = {LEAST, LEAST + 1, -9, -8, -2, -1, 9, 10, 63, 64, 256, MOST - 1, MOST};
        for (int i = 0; i < 40; i++) {
            FieldsByClasses y = filled(40);
            for (int k : noK) {
                due(call("polynomial", i, k), y.polynomial(i, k), NO_NUMBER);
            }
        }
        for (int degree = 1; degree <= 8; degree++) {
            FieldsByClasses y = new FieldsByClasses();
            for (int k = 0; k < y.list(degree, 63) && k < 40; k++) {
                y.listed(degree, 63, k);
                due("of DEGREE " + degree + ", first", y.polynomial(k, degree), 1L);
                due("of DEGREE " + degree + ", last", y.polynomial(k, 0) != NO_NUMBER, true);
                due("of DEGREE " + degree + ", past the first", y.polynomial(k, degree + 1), NO_NUMBER);
                due("of DEGREE " + degree + ", past the last", y.polynomial(k, -1), NO_NUMBER);
            }
        }
    }

    private static void rootsNone() {
        test("Promise 17: NONE: there is none such, or p is no prime of 2 .. 997.");
        for (int made : new int[] {0, 1, 3, 40}) {
            FieldsByClasses x = filled(made);
            for (int none : noNumbers(made)) {
                for (int p : new int[] {2, 3, 997, 1, 998}) {
                    due("of " + made + ", " + call("roots", none, p), x.roots(none, p), -1);
                }
            }
            for (int i = 0; i < made; i++) {
                boolean low = howManyRests(BARS[i]) <= 8;
                due("of " + made + ", " + call("roots", i, 2) + " is NONE", x.roots(i, 2) == -1, !low);
                due("of " + made + ", " + call("roots", i, 997) + " is NONE", x.roots(i, 997) == -1, !low);
            }
        }
        FieldsByClasses y = filled(40);
        for (int p : NO_PRIMES) {
            due(call("roots", 0, p), y.roots(0, p), -1);
            due(call("roots", 1, p), y.roots(1, p), -1);
            due(call("roots", 10, p), y.roots(10, p), -1);
            due(call("roots", 39, p), y.roots(39, p), -1);
        }
        due("roots(1, 2)", y.roots(1, 2), 0);
        due("roots(1, 997)", y.roots(1, 997), 2);
        due("roots(2, 2)", y.roots(2, 2), 1);
        due("roots(0, 997)", y.roots(0, 997), 1);
        due("of DEGREE 8", y.roots(10, 991), 8);
        due("of DEGREE 10", y.roots(7, 23), -1);
    }

    private static void countNone() {
        test("Promise 18: 1 the greatest BAR of them (0 without). NONE for another what.");
        FieldsByClasses x = new FieldsByClasses();
        countsAre(x, 0, 0);
        x.make(1, 0L);
        countsAre(x, 1, 1);
        x.make(63, 0L);
        countsAre(x, 2, 63);
        x.make(62, 0L);
        x.make(3, 0L);
        countsAre(x, 4, 63);
        x.clear();
        countsAre(x, 0, 0);
        x.make(62, 0L);
        countsAre(x, 1, 31);
        countsAre(filled(39), 39, 52);
        countsAre(filled(40), 40, 53);
        FieldsByClasses y = filled(40);
        y.make(63, 0L);
        countsAre(y, 40, 53);
    }

    private static void countsAre(FieldsByClasses x, int many, int greatest) {
        due("count(0)", x.count(0), many);
        due("count(1)", x.count(1), greatest);
        for (int what : new int[] {LEAST, LEAST + 1, -2, -1, 2, 3, 5, 256, MOST - 1, MOST}) {
            due(call("count", what), x.count(what), -1);
        }
    }

    private static void clearedAll() {
        test("Promise 19: All FIELDS made are gone.");
        for (int made : new int[] {0, 1, 3, 40}) {
            FieldsByClasses x = filled(made);
            x.clear();
            due("of " + made + ", all that is told", told(x), "0 made, greatest 0");
            for (int i = 0; i < 40; i++) {
                due("of " + made + ", " + call("group", i), x.group(i), -1L);
                due("of " + made + ", " + call("tell", i, 0), x.tell(i, 0), -9);
                due("of " + made + ", " + call("liesIn", i, i), x.liesIn(i, i), false);
            }
            x.clear();
            due("of " + made + ", cleared twice", told(x), "0 made, greatest 0");
            for (int i = 39; i >= 0; i--) {
                due("of " + made + ", made anew", x.make(BARS[i], 0L), 39 - i);
            }
            due("of " + made + ", the 41st anew", x.make(63, 0L), -1);
            due("of " + made + ", the first anew", x.tell(0, 0), 53);
        }
    }

    private static void imageFalse() {
        test("Promise 20: true; false for another k.");
        for (int made : new int[] {0, 1, 40}) {
            FieldsByClasses x = filled(made);
            String before = told(x);
            for (int k : NO_IMAGES) {
                due("of " + made + ", " + call("image", k), x.image(k), false);
                due("of " + made + ", " + call("again", k), x.again(k), false);
            }
            for (int k = 0; k <= 2; k++) {
                due("of " + made + ", not yet, " + call("again", k), x.again(k), false);
                due("of " + made + ", " + call("image", k), x.image(k), true);
                due("of " + made + ", anew, " + call("image", k), x.image(k), true);
            }
            due("of " + made + ", all that is told", told(x), before);
            x.clear();
            for (int i = 39; i >= 0; i--) {
                x.make(BARS[i], 0L);
            }
            for (int k : NO_IMAGES) {
                due("of " + made + ", with images, " + call("image", k), x.image(k), false);
            }
            for (int k = 0; k <= 2; k++) {
                due("of " + made + ", " + call("again", k), x.again(k), true);
                due("of " + made + ", count(0)", x.count(0), made);
            }
            due("of " + made + ", as it was", told(x), before);
        }
    }

    private static void againFalse() {
        test("Promise 21: All that is as image k has it (other images stay): true; false if there is none such.");
        FieldsByClasses x = filled(2);
        for (int k = 0; k <= 2; k++) {
            due("before any, " + call("again", k), x.again(k), false);
        }
        due("a refused one changes nothing", told(x), "2 made, greatest 3, 1:1, 3:2");
        x.image(2);
        for (int k : NO_IMAGES) {
            due(call("again", k), x.again(k), false);
        }
        due("again(0)", x.again(0), false);
        due("again(1)", x.again(1), false);
        x.clear();
        due("a refused one", x.again(1), false);
        due("changes nothing", told(x), "0 made, greatest 0");
        due("again(2)", x.again(2), true);
        due("as image 2 has it", told(x), "2 made, greatest 3, 1:1, 3:2");
        due("the next number", x.make(61, 0L), 2);
        due("again(2)", x.again(2), true);
        due("the image had not the last", told(x), "2 made, greatest 3, 1:1, 3:2");
        threeImages();
    }

    private static void threeImages() {
        FieldsByClasses x = new FieldsByClasses();
        x.image(0);
        x.make(7, 0L);
        x.image(1);
        x.clear();
        for (int i = 0; i < 40; i++) {
            x.make(BARS[i], 0L);
        }
        x.image(2);
        String all = told(x);
        x.clear();
        for (int i = 39; i >= 0; i--) {
            x.make(BARS[i], 0L);
        }
        for (int k : NO_IMAGES) {
            due("with all three images, " + call("again", k), x.again(k), false);
        }
        due("a refused one changes nothing", x.tell(0, 0), 53);
        due("again(2)", x.again(2), true);
        due("all 40 are as image 2 has them", told(x), all);
        int[] often = {0, 1, 2, 0, 2, 1, 1, 0, 0, 2, 2};
        int[] counts = {0, 1, 40};
        int[] greatest = {0, 7, 53};
        for (int k : often) {
            due(call("again", k), x.again(k), true);
            due("count(0) of image " + k, x.count(0), counts[k]);
            due("count(1) of image " + k, x.count(1), greatest[k]);
            due("the last of image " + k, x.tell(counts[k] - 1, 0), k == 0 ? -9 : greatest[k]);
            due("past the last of image " + k, x.group(counts[k]), -1L);
            due("one more after image " + k, x.make(63, 0L), k == 2 ? -1 : counts[k]);
        }
        due("again(0)", x.again(0), true);
        due("image(2) of what image 0 has", x.image(2), true);
        due("again(1)", x.again(1), true);
        due("count(0)", x.count(0), 1);
        due("again(2)", x.again(2), true);
        due("count(0)", x.count(0), 0);
    }
}
