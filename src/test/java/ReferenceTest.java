import java.util.ArrayList;
import java.util.Arrays;
import java.util.HashMap;
import java.util.LinkedHashSet;
import java.util.List;
import java.util.Map;
import java.util.Objects;
import java.util.Random;
import java.util.Set;
import java.util.TreeSet;

/**
 * Runs of up to 512 calls, against a second build that says the document's words with sets and, where it can, goes
 * another way: BARS by trying every m, DISCRIMINANTS by how far up inertia acts, THE POLYNOMIAL by complex numbers.
 */
public final class ReferenceTest {
    private static final int RUNS = 80;
    private static final int LEAST = Integer.MIN_VALUE;
    private static final int MOST = Integer.MAX_VALUE;
    private static final int[] EDGES = {LEAST, LEAST + 1, -65, -63, -2, -1, 0, 1, 2, 3, 5, 6, 8, 9, 39, 40, 41, 60, 61, 62, 63, 64,
        65, 997, 998, 1009, MOST - 1, MOST};
    private static final long[] EDGE_BITS = {Long.MIN_VALUE, Long.MIN_VALUE + 1, Long.MIN_VALUE + 2, -2, -1, 0, 1, 2, 3, 4, 1L << 8,
        1L << 31, 1L << 32, 1L << 38, 1L << 61, 1L << 62, 1L << 62 | 2, Long.MAX_VALUE - 1, Long.MAX_VALUE};
    private static int wrong = 0;

    public static void main(String[] args) {
        failAfter(900);
        everyRest();
        everyField();
        everyEdge();
        for (int run = 0; run < RUNS; run++) {
            oneRun(run);
        }
        System.out.println(wrong == 0 ? "both builds answer alike" : wrong + " answers are not alike");
        if (wrong != 0) {
            System.exit(1);
        }
    }

    /** A call that does not end must fail the test, not hold it up. */
    private static void failAfter(int seconds) {
        Thread guard = new Thread(() -> {
            try {
                Thread.sleep(1000L * seconds);
            } catch (InterruptedException e) {
                return;
            }
            System.out.println("not at its end after " + seconds + " seconds");
            Runtime.getRuntime().halt(1);
        });
        guard.setDaemon(true);
        guard.start();
    }

    private static void due(String call, Object got, Object want) {
        if (!Objects.equals(got, want)) {
            wrong++;
            if (wrong < 50) {
                System.out.println(call + " answered " + got + ", due is " + want);
            }
        }
    }

    /** All m and all RESTS by it: the factors are so many cycles put together, each going into the next. */
    private static void everyRest() {
        for (int m = 1; m <= 63; m++) {
            FieldsByClasses x = new FieldsByClasses();
            Set<Integer> rests = Slow.rests(m);
            due("rests(" + m + ")", x.rests(m), rests.size());
            Map<Integer, Integer> orders = new HashMap<>();
            for (int r = -1; r <= m + 1; r++) {
                int order = rests.contains(r) ? Slow.order(m, r) : -1;
                due("order(" + m + ", " + r + ")", x.order(m, r), order);
                orders.merge(order, 1, Integer::sum);
            }
            List<Integer> factors = new ArrayList<>();
            for (int k = 0; x.factor(m, k) != -1; k++) {
                factors.add(x.factor(m, k));
                due("factor above 1", factors.get(k) > 1, true);
                due("factor goes into the next", k == 0 || factors.get(k) % factors.get(k - 1) == 0, true);
            }
            // A commuting group is told by how many of it have which order.
            for (int n = 1; n <= 60; n++) {
                int have = 1;
                for (int f : factors) {
                    have *= Slow.gcd(n, f);
                }
                int killed = 0;
                for (Map.Entry<Integer, Integer> e : orders.entrySet()) {
                    killed += e.getKey() > 0 && n % e.getKey() == 0 ? e.getValue() : 0;
                }
                due("cycles of " + m + " by " + n, have, killed);
            }
        }
    }

    /** Every FIELD of every BAR, asked for everything. */
    private static void everyField() {
        for (int m = 1; m <= 63; m++) {
            for (Set<Integer> group : Slow.above(m, Set.of(1 % m))) {
                FieldsByClasses x = new FieldsByClasses();
                Slow s = new Slow();
                long bits = Slow.bits(group);
                due("make(" + m + ", " + bits + ")", x.make(m, bits), s.make(m, bits));
                String name = "of make(" + m + ", " + bits + ") ";
                for (int what = -1; what <= 6; what++) {
                    due(name + "tell(0, " + what + ")", x.tell(0, what), s.tell(0, what));
                }
                due(name + "group(0)", x.group(0), s.group(0));
                for (int k = -1; k <= 9; k++) {
                    due(name + "polynomial(0, " + k + ")", x.polynomial(0, k), s.polynomial(0, k));
                }
                for (int p = 2; p <= 997; p = p < 70 ? p + 1 : p + 103) {
                    due(name + "discriminant(0, " + p + ")", x.discriminant(0, p), s.discriminant(0, p));
                    due(name + "roots(0, " + p + ")", x.roots(0, p), s.roots(0, p));
                    for (int what = 0; what <= 2; what++) {
                        due(name + "parts(0, " + p + ", " + what + ")", x.parts(0, p, what), s.parts(0, p, what));
                    }
                }
            }
        }
    }

    /** All arguments at the edges together, where 0, 3 and 40 FIELDS are made: no call throws, and all are answered alike. */
    private static void everyEdge() {
        for (int made : new int[] {0, 3, 40}) {
            Slow base = new Slow();
            for (int m = 1; base.made.size() < made; m++) {
                base.make(m, 0L);
            }
            for (int a : EDGES) {
                edgesOfOne(a, base);
                for (int b : EDGES) {
                    edgesOfTwo(a, b, base);
                    edgesOfThree(a, b, base);
                }
            }
        }
    }

    /** Such FIELDS as the second build has. */
    private static FieldsByClasses madeLike(Slow base) {
        FieldsByClasses x = new FieldsByClasses();
        for (int i = 0; i < base.made.size(); i++) {
            due("make for an edge", x.make(base.made.get(i).m, base.group(i)), i);
        }
        return x;
    }

    private static void edgesOfOne(int a, Slow base) {
        FieldsByClasses x = madeLike(base);
        Slow s = base.copied();
        String name = "edge " + a + ": ";
        due(name + "rests", x.rests(a), s.restsOf(a));
        due(name + "group", x.group(a), s.group(a));
        due(name + "count", x.count(a), s.count(a));
        due(name + "image", x.image(a), s.image(a));
        for (long bits : EDGE_BITS) {
            due(name + "make of " + bits, x.make(a, bits), s.make(a, bits));
        }
        due(name + "again", x.again(a), s.again(a));
        due(name + "again 1", x.again(1), s.again(1));
        due(name + "count 0", x.count(0), s.count(0));
    }

    private static void edgesOfTwo(int a, int b, Slow base) {
        FieldsByClasses x = madeLike(base);
        Slow s = base.copied();
        String name = "edges " + a + ", " + b + ": ";
        due(name + "order", x.order(a, b), s.orderOf(a, b));
        due(name + "factor", x.factor(a, b), s.factor(a, b));
        due(name + "liesIn", x.liesIn(a, b), s.liesIn(a, b));
        due(name + "tell", x.tell(a, b), s.tell(a, b));
        due(name + "discriminant", x.discriminant(a, b), s.discriminant(a, b));
        due(name + "list", x.list(a, b), s.list(a, b));
        due(name + "polynomial", x.polynomial(a, b), s.polynomial(a, b));
        due(name + "roots", x.roots(a, b), s.roots(a, b));
        due(name + "powers", x.powers(a, b), s.powers(a, b));
        due(name + "join", x.join(a, b), s.join(a, b));
        due(name + "meet", x.meet(a, b), s.meet(a, b));
        due(name + "count", x.count(0), s.count(0));
    }

    private static void edgesOfThree(int a, int b, Slow base) {
        FieldsByClasses x = madeLike(base);
        Slow s = base.copied();
        for (int c : EDGES) {
            String name = "edges " + a + ", " + b + ", " + c + ": ";
            due(name + "parts", x.parts(a, b, c), s.parts(a, b, c));
            due(name + "listed", x.listed(a, b, c), s.listed(a, b, c));
        }
    }

    private static void oneRun(int run) {
        Random random = new Random(7919L * run + 1);
        FieldsByClasses x = new FieldsByClasses();
        Slow s = new Slow();
        // What is told at the end takes 40 calls of the 512.
        for (int calls = 0; calls < 471 && wrong < 50;) {
            String name = "run " + run + ", call " + calls + ": ";
            int kind = random.nextInt(random.nextInt(8) == 0 ? 20 : 10);
            int a = random.nextInt(24) == 0 ? pick(random, -2, 45) : random.nextInt(Math.max(1, s.made.size()));
            int b = random.nextInt(24) == 0 ? pick(random, -2, 45) : random.nextInt(Math.max(1, s.made.size()));
            int m = random.nextInt(24) == 0 ? pick(random, -2, 66) : 1 + random.nextInt(63);
            int what = pick(random, -1, 6);
            int p = random.nextInt(3) == 0 ? pick(random, -3, 1020) : prime(random);
            calls += oneCall(name, kind, new int[] {a, b, m, what, p}, random, x, s);
        }
        for (int field = 0; field < s.made.size(); field++) {
            due("run " + run + ", at its end group(" + field + ")", x.group(field), s.group(field));
        }
    }

    /** How many calls it took. */
    private static int oneCall(String name, int kind, int[] n, Random random, FieldsByClasses x, Slow s) {
        int a = n[0];
        int b = n[1];
        int m = n[2];
        int what = n[3];
        int p = n[4];
        String args = a + ", " + b + ", " + m + ", " + what + ", " + p;
        switch (kind) {
            case 0: {
                long bits = someBits(m, random);
                due(name + "make(" + m + ", " + bits + ")", x.make(m, bits), s.make(m, bits));
                break;
            }
            case 1: {
                int k = pick(random, -1, 62);
                due(name + "powers(" + m + ", " + k + ")", x.powers(m, k), s.powers(m, k));
                break;
            }
            case 2: due(name + "join " + args, x.join(a, b), s.join(a, b)); break;
            case 3: due(name + "meet " + args, x.meet(a, b), s.meet(a, b)); break;
            case 4: due(name + "liesIn " + args, x.liesIn(a, b), s.liesIn(a, b)); break;
            case 5: due(name + "tell " + args, x.tell(a, what), s.tell(a, what)); break;
            case 6: due(name + "group " + args, x.group(a), s.group(a)); break;
            case 7: due(name + "parts " + args, x.parts(a, p, what), s.parts(a, p, what)); break;
            case 8: due(name + "discriminant " + args, x.discriminant(a, p), s.discriminant(a, p)); break;
            case 9: due(name + "polynomial " + args, x.polynomial(a, what), s.polynomial(a, what)); break;
            case 10: due(name + "roots " + args, x.roots(a, p), s.roots(a, p)); break;
            case 11:
            case 12: {
                int degree = pick(random, 0, 9);
                due(name + "list(" + degree + ", " + m + ")", x.list(degree, m), s.list(degree, m));
                int k = pick(random, -1, 40);
                due(name + "listed(" + degree + ", " + m + ", " + k + ")", x.listed(degree, m, k), s.listed(degree, m, k));
                return 2;
            }
            case 13: due(name + "count " + args, x.count(what), s.count(what)); break;
            case 14:
                if (random.nextInt(6) == 0) {
                    x.clear();
                    s.clear();
                }
                break;
            case 15:
            case 16: due(name + "image " + args, x.image(what), s.image(what)); break;
            case 17: due(name + "again " + args, x.again(what), s.again(what)); break;
            default:
                due(name + "count(0)", x.count(0), s.count(0));
                due(name + "count(1)", x.count(1), s.count(1));
                return 2;
        }
        return 1;
    }

    private static int pick(Random random, int least, int most) {
        return least + random.nextInt(most - least + 1);
    }

    private static int prime(Random random) {
        int p = 2 + random.nextInt(random.nextBoolean() ? 20 : 996);
        while (!Slow.isPrime(p)) {
            p--;
        }
        return p;
    }

    private static long someBits(int m, Random random) {
        long bits = 0;
        int many = random.nextInt(4);
        for (int i = 0; i < many && m >= 1 && m <= 63; i++) {
            List<Integer> rests = new ArrayList<>(Slow.rests(m));
            bits |= 1L << rests.get(random.nextInt(rests.size()));
        }
        return random.nextInt(20) == 0 ? bits | 1L << random.nextInt(64) : bits;
    }

    /** The second build. */
    private static final class Slow {
        private static final Map<Integer, List<Field>> BARRED = new HashMap<>();
        private List<Field> made = new ArrayList<>();
        private final Map<Integer, List<Field>> images = new HashMap<>();

        private record Field(int m, Set<Integer> group) {
            int degree() {
                return rests(m).size() / group.size();
            }

            boolean real() {
                return m == 1 || group.contains(m - 1);
            }
        }

        static int gcd(int a, int b) {
            return b == 0 ? a : gcd(b, a % b);
        }

        static boolean isPrime(int p) {
            if (p < 2 || p > 997) {
                return false;
            }
            for (int d = 2; d < p; d++) {
                if (p % d == 0) {
                    return false;
                }
            }
            return true;
        }

        static Set<Integer> rests(int m) {
            Set<Integer> rests = new TreeSet<>();
            for (int r = 0; r < m; r++) {
                if (gcd(r, m) == 1) {
                    rests.add(r);
                }
            }
            return rests;
        }

        static long bits(Set<Integer> rests) {
            long bits = 0;
            for (int r : rests) {
                bits |= 1L << r;
            }
            return bits;
        }

        static int order(int m, int r) {
            int power = r % m;
            int n = 1;
            while (power != 1 % m) {
                power = power * r % m;
                n++;
            }
            return n;
        }

        static Set<Integer> products(int m, Set<Integer> a, Set<Integer> b) {
            Set<Integer> all = new TreeSet<>();
            for (int r : a) {
                for (int s : b) {
                    all.add(r * s % m);
                }
            }
            return all;
        }

        static Set<Integer> closed(int m, Set<Integer> rests) {
            Set<Integer> group = new TreeSet<>(rests);
            group.add(1 % m);
            Set<Integer> next = products(m, group, group);
            while (!next.equals(group)) {
                group = next;
                next = products(m, group, group);
            }
            return group;
        }

        static Set<Set<Integer>> above(int m, Set<Integer> group) {
            Set<Set<Integer>> all = new LinkedHashSet<>();
            List<Set<Integer>> todo = new ArrayList<>();
            Set<Integer> first = closed(m, group);
            all.add(first);
            todo.add(first);
            while (!todo.isEmpty()) {
                Set<Integer> next = todo.remove(todo.size() - 1);
                for (int r : rests(m)) {
                    Set<Integer> more = new TreeSet<>(next);
                    if (more.add(r)) {
                        Set<Integer> greater = closed(m, more);
                        if (all.add(greater)) {
                            todo.add(greater);
                        }
                    }
                }
            }
            return all;
        }

        static Set<Integer> lift(int m, Set<Integer> group, int n) {
            Set<Integer> same = new TreeSet<>();
            for (int r : rests(n)) {
                if (group.contains(r % m)) {
                    same.add(r);
                }
            }
            return same;
        }

        /** By every m from 1 on: whether some GROUP by it, lifted to where both can be told, is the same. */
        static Field barred(int m, Set<Integer> group) {
            for (int n = 1; n < m; n++) {
                int both = m / gcd(m, n) * n;
                Set<Integer> lifted = lift(m, group, both);
                Set<Integer> lowered = new TreeSet<>();
                for (int r : lifted) {
                    lowered.add(r % n);
                }
                if (lift(n, lowered, both).equals(lifted)) {
                    return new Field(n, lowered);
                }
            }
            return new Field(m, group);
        }

        Slow copied() {
            Slow copy = new Slow();
            copy.made = new ArrayList<>(made);
            copy.images.putAll(images);
            return copy;
        }

        int restsOf(int m) {
            return m < 1 || m > 63 ? -1 : rests(m).size();
        }

        int orderOf(int m, int r) {
            return m < 1 || m > 63 || !rests(m).contains(r) ? -1 : order(m, r);
        }

        private static int killedBy(int n, int m) {
            int killed = 0;
            for (int r : rests(m)) {
                killed += n % order(m, r) == 0 ? 1 : 0;
            }
            return killed;
        }

        /** From how many RESTS each power of a prime kills: the longest cycle takes the most of each prime. */
        int factor(int m, int k) {
            if (m < 1 || m > 63 || k < 0) {
                return -1;
            }
            int[] longest = {1, 1, 1, 1, 1, 1};
            for (int p = 2; p <= 60; p++) {
                for (int power = p; isPrime(p) && power <= 60; power *= p) {
                    int more = killedBy(power, m) / killedBy(power / p, m);
                    for (int t = 0; more > 1; t++) {
                        longest[t] *= p;
                        more /= p;
                    }
                }
            }
            int many = 0;
            while (longest[many] > 1) {
                many++;
            }
            return k < many ? longest[many - 1 - k] : -1;
        }

        private boolean has(int field) {
            return field >= 0 && field < made.size();
        }

        private int keep(Field field) {
            int at = made.indexOf(field);
            if (at >= 0) {
                return at;
            }
            if (made.size() == 40) {
                return -1;
            }
            made.add(field);
            return made.size() - 1;
        }

        int make(int m, long bits) {
            if (m < 1 || m > 63) {
                return -1;
            }
            Set<Integer> rests = new TreeSet<>();
            for (int r = 0; r < 64; r++) {
                if ((bits >>> r & 1) != 0) {
                    rests.add(r);
                }
            }
            return rests(m).containsAll(rests) ? keep(barred(m, closed(m, rests))) : -1;
        }

        int powers(int m, int k) {
            if (m < 1 || m > 63 || k < 1 || k > 60) {
                return -1;
            }
            Set<Integer> all = new TreeSet<>();
            for (int r : rests(m)) {
                int power = 1 % m;
                for (int i = 0; i < k; i++) {
                    power = power * r % m;
                }
                all.add(power);
            }
            return keep(barred(m, all));
        }

        private int common(int a, int b) {
            if (!has(a) || !has(b)) {
                return -1;
            }
            int m = made.get(a).m;
            int n = made.get(b).m;
            int both = m / gcd(m, n) * n;
            return both > 63 ? -1 : both;
        }

        private Set<Integer> by(int field, int m) {
            return lift(made.get(field).m, made.get(field).group, m);
        }

        private Field joined(int a, int b, int m) {
            Set<Integer> both = by(a, m);
            both.retainAll(by(b, m));
            return barred(m, both);
        }

        int join(int a, int b) {
            int m = common(a, b);
            return m == -1 ? -1 : keep(joined(a, b, m));
        }

        int meet(int a, int b) {
            int m = common(a, b);
            return m == -1 ? -1 : keep(barred(m, products(m, by(a, m), by(b, m))));
        }

        boolean liesIn(int a, int b) {
            int m = common(a, b);
            return m != -1 && joined(a, b, m).equals(made.get(b));
        }

        int tell(int field, int what) {
            if (!has(field) || what < 0 || what > 5) {
                return -9;
            }
            Field f = made.get(field);
            int[] told = {f.m, f.degree(), f.real() ? 1 : 0, 0, !f.real() && f.degree() / 2 % 2 == 1 ? -1 : 1, 0};
            if (what == 3) {
                for (int r : rests(f.m)) {
                    if (products(f.m, closed(f.m, Set.of(r)), f.group).equals(rests(f.m))) {
                        told[3] = 1;
                    }
                }
            }
            if (what == 5) {
                told[5] = above(f.m, f.group).size();
            }
            return told[what];
        }

        long group(int field) {
            return has(field) ? bits(made.get(field).group) : -1;
        }

        /** The RESTS by m that are 1 by n. */
        private static Set<Integer> ones(int m, int n) {
            Set<Integer> ones = new TreeSet<>();
            for (int r : rests(m)) {
                if (n == 1 || r % n == 1) {
                    ones.add(r);
                }
            }
            return ones;
        }

        int parts(int field, int p, int what) {
            if (!has(field) || !isPrime(p) || what < 0 || what > 2) {
                return -1;
            }
            Field k = made.get(field);
            int n = k.m;
            while (n % p == 0) {
                n /= p;
            }
            Set<Integer> products = products(k.m, ones(k.m, n), k.group);
            int e = products.size() / k.group.size();
            int f = 0;
            int power = 1 % n;
            boolean among = false;
            while (!among) {
                f++;
                power = power * p % n;
                for (int r : products) {
                    among |= r % n == power;
                }
            }
            return new int[] {e, f, k.degree() / (e * f)}[what];
        }

        /** A CHARACTER has p in its BAR once for each i such that it is not 1 on the RESTS that are 1 by n * p ^ i. */
        int discriminant(int field, int p) {
            if (!has(field) || !isPrime(p)) {
                return -1;
            }
            Field k = made.get(field);
            int n = k.m;
            while (n % p == 0) {
                n /= p;
            }
            int often = 0;
            for (; n < k.m; n *= p) {
                int on = products(k.m, ones(k.m, n), k.group).size();
                often += k.degree() - rests(k.m).size() / on;
            }
            return often;
        }

        private static List<Field> barredBy(int m) {
            return BARRED.computeIfAbsent(m, n -> {
                List<Field> all = new ArrayList<>();
                for (Set<Integer> group : above(n, Set.of(1 % n))) {
                    Field field = barred(n, group);
                    if (field.m == n) {
                        all.add(field);
                    }
                }
                all.sort((a, b) -> Long.compare(bits(a.group), bits(b.group)));
                return all;
            });
        }

        private static List<Field> listOf(int degree, int bound) {
            List<Field> all = new ArrayList<>();
            for (int m = 1; m <= bound; m++) {
                for (Field field : barredBy(m)) {
                    if (field.degree() == degree) {
                        all.add(field);
                    }
                }
            }
            return all;
        }

        int list(int degree, int bound) {
            return degree < 1 || degree > 8 || bound < 1 || bound > 63 ? -1 : listOf(degree, bound).size();
        }

        int listed(int degree, int bound, int k) {
            return k < 0 || k >= list(degree, bound) ? -1 : keep(listOf(degree, bound).get(k));
        }

        /** From X ^ 0 on; null if there is none. */
        private long[] numbers(int field) {
            if (!has(field) || made.get(field).degree() > 8) {
                return null;
            }
            Field f = made.get(field);
            List<double[]> sums = new ArrayList<>();
            Set<Integer> left = rests(f.m);
            while (!left.isEmpty()) {
                Set<Integer> one = products(f.m, Set.of(left.iterator().next()), f.group);
                left.removeAll(one);
                double[] sum = new double[2];
                for (int r : one) {
                    sum[0] += Math.cos(2 * Math.PI * r / f.m);
                    sum[1] += Math.sin(2 * Math.PI * r / f.m);
                }
                for (double[] other : sums) {
                    if (Math.hypot(sum[0] - other[0], sum[1] - other[1]) < 1e-7) {
                        return null;
                    }
                }
                sums.add(sum);
            }
            double[][] product = new double[9][2];
            product[0][0] = 1;
            for (double[] sum : sums) {
                for (int k = 8; k >= 0; k--) {
                    double re = product[k][0] * sum[0] - product[k][1] * sum[1];
                    double im = product[k][0] * sum[1] + product[k][1] * sum[0];
                    product[k][0] = (k == 0 ? 0 : product[k - 1][0]) - re;
                    product[k][1] = (k == 0 ? 0 : product[k - 1][1]) - im;
                }
            }
            long[] numbers = new long[sums.size() + 1];
            for (int k = 0; k < numbers.length; k++) {
                numbers[k] = Math.round(product[k][0]);
                due("whole number", Math.hypot(product[k][0] - numbers[k], product[k][1]) < 1e-4, true);
            }
            return numbers;
        }

        long polynomial(int field, int k) {
            long[] numbers = numbers(field);
            return numbers == null || k < 0 || k >= numbers.length ? -9000000000000000000L : numbers[k];
        }

        int roots(int field, int p) {
            long[] numbers = numbers(field);
            if (numbers == null || !isPrime(p)) {
                return -1;
            }
            int found = 0;
            for (int x = 0; x < p; x++) {
                long value = 0;
                long power = 1;
                for (long number : numbers) {
                    value = (value + number % p * power) % p;
                    power = power * x % p;
                }
                found += value == 0 ? 1 : 0;
            }
            return found;
        }

        int count(int what) {
            int greatest = 0;
            for (Field field : made) {
                greatest = Math.max(greatest, field.m);
            }
            return what == 0 ? made.size() : what == 1 ? greatest : -1;
        }

        void clear() {
            made.clear();
        }

        boolean image(int k) {
            if (Arrays.asList(0, 1, 2).contains(k)) {
                images.put(k, new ArrayList<>(made));
                return true;
            }
            return false;
        }

        boolean again(int k) {
            if (!images.containsKey(k)) {
                return false;
            }
            made = new ArrayList<>(images.get(k));
            return true;
        }
    }
}
