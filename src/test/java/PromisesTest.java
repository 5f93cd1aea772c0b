import java.util.Objects;

/** Promise by promise: ordinary inputs, the edges that the document names, and wrong inputs. */
public final class PromisesTest {
    private static final long NO_NUMBER = -9000000000000000000L;
    private static final int[] WRONG_M = {Integer.MIN_VALUE, -1, 0, 64, 65, Integer.MAX_VALUE};
    private static final int[] WRONG_PRIMES = {Integer.MIN_VALUE, -7, -2, -1, 0, 1, 4, 9, 961, 991 * 2, 998, 999, 1009,
        Integer.MAX_VALUE};
    private static int wrong = 0;
    private static volatile int promise = 0;

    public static void main(String[] args) {
        failAfter(120);
        promise1();
        promise2();
        promise3();
        promise4();
        promise5();
        promise6();
        promise7();
        promise8();
        promise9();
        promise10();
        promise11();
        promise12();
        promise13();
        promise14();
        promise15();
        promise16();
        promise17();
        promise18();
        promise19();
        promise20();
        promise21();
        System.out.println(wrong == 0 ? "all promises hold" : wrong + " answers are not as due");
        if (wrong != 0) {
            System.exit(1);
        }
    }

    /** A call that does not end must fail the test, not hold it up. */
    private static void failAfter(int seconds) {
        Thread guard = new Thread(() -> {
            try {
                Thread.sleep(1000L * seconds);
            } catch (InterruptedException e) {
                return;
            }
            System.out.println("promise " + promise + ": "
                + "not at its end after " + seconds + " seconds");
            Runtime.getRuntime().halt(1);
        });
        guard.setDaemon(true);
        guard.start();
    }

    private static void due(String call, Object got, Object want) {
        if (!Objects.equals(got, want)) {
            wrong++;
            System.out.println("promise " + promise + ": " + call + " answered " + got + ", due is " + want);
        }
    }

    private static long bits(int... rests) {
        long all = 0;
        for (int r : rests) {
            all |= 1L << r;
        }
        return all;
    }

    /** There are just 40 FIELDS of DEGREE 2 with a BAR up to 63. */
    private static FieldsByClasses full() {
        FieldsByClasses x = new FieldsByClasses();
        for (int k = 0; k < 40; k++) {
            due("listed(2, 63, " + k + ")", x.listed(2, 63, k), k);
        }
        return x;
    }

    private static void polynomialIs(FieldsByClasses x, int field, long... numbers) {
        for (int k = 0; k < numbers.length; k++) {
            due("polynomial(" + field + ", " + k + ")", x.polynomial(field, k), numbers[k]);
        }
        due("one more", x.polynomial(field, numbers.length), NO_NUMBER);
        due("one less", x.polynomial(field, -1), NO_NUMBER);
    }

    private static void partsAre(FieldsByClasses x, int field, int p, int e, int f, int g) {
        String call = "parts(" + field + ", " + p + ", ";
        due(call + "0)", x.parts(field, p, 0), e);
        due(call + "1)", x.parts(field, p, 1), f);
        due(call + "2)", x.parts(field, p, 2), g);
    }

    private static void promise1() {
        promise = 1;
        FieldsByClasses x = new FieldsByClasses();
        due("count(0)", x.count(0), 0);
        due("count(1)", x.count(1), 0);
        due("tell(0, 0)", x.tell(0, 0), -9);
        due("group(0)", x.group(0), -1L);
        for (int k = -1; k <= 3; k++) {
            due("again(" + k + ")", x.again(k), false);
        }
        due("NONE", FieldsByClasses.NONE, -1);
        FieldsByClasses y = new FieldsByClasses();
        x.make(5, 0L);
        due("another object's count(0)", y.count(0), 0);
    }

    private static void promise2() {
        promise = 2;
        FieldsByClasses x = new FieldsByClasses();
        int[][] due = {{1, 1}, {2, 1}, {3, 2}, {4, 2}, {12, 4}, {30, 8}, {32, 16}, {49, 42}, {60, 16}, {61, 60}, {62, 30},
            {63, 36}};
        for (int[] row : due) {
            due("rests(" + row[0] + ")", x.rests(row[0]), row[1]);
        }
        for (int m : WRONG_M) {
            due("rests(" + m + ")", x.rests(m), -1);
        }
    }

    private static void promise3() {
        promise = 3;
        FieldsByClasses x = new FieldsByClasses();
        int[][] due = {{1}, {2}, {3, 2}, {4, 2}, {5, 4}, {8, 2, 2}, {9, 6}, {12, 2, 2}, {15, 2, 4}, {16, 2, 4}, {21, 2, 6},
            {24, 2, 2, 2}, {32, 2, 8}, {35, 2, 12}, {36, 2, 6}, {40, 2, 2, 4}, {42, 2, 6}, {49, 42}, {56, 2, 2, 6},
            {60, 2, 2, 4}, {61, 60}, {62, 30}, {63, 6, 6}};
        for (int[] row : due) {
            for (int k = 1; k < row.length; k++) {
                due("factor(" + row[0] + ", " + (k - 1) + ")", x.factor(row[0], k - 1), row[k]);
            }
            due("factor(" + row[0] + ") past the last", x.factor(row[0], row.length - 1), -1);
            due("factor(" + row[0] + ", -1)", x.factor(row[0], -1), -1);
            due("factor(" + row[0] + ", most)", x.factor(row[0], Integer.MAX_VALUE), -1);
            due("factor(" + row[0] + ", least)", x.factor(row[0], Integer.MIN_VALUE), -1);
        }
        for (int m : WRONG_M) {
            due("factor(" + m + ", 0)", x.factor(m, 0), -1);
        }
    }

    private static void promise4() {
        promise = 4;
        FieldsByClasses x = new FieldsByClasses();
        int[][] due = {{1, 0, 1}, {2, 1, 1}, {7, 1, 1}, {7, 2, 3}, {7, 3, 6}, {7, 6, 2}, {8, 3, 2}, {61, 2, 60}, {63, 2, 6},
            {63, 4, 3}, {63, 62, 2}, {62, 3, 30}};
        for (int[] row : due) {
            due("order(" + row[0] + ", " + row[1] + ")", x.order(row[0], row[1]), row[2]);
        }
        int[][] none = {{1, 1}, {1, -1}, {2, 0}, {5, 0}, {5, 5}, {5, 6}, {5, -1}, {8, 4}, {63, 63}, {63, 64}, {63, 65}, {63, 21},
            {5, Integer.MAX_VALUE}, {5, Integer.MIN_VALUE}};
        for (int[] row : none) {
            due("order(" + row[0] + ", " + row[1] + ")", x.order(row[0], row[1]), -1);
        }
        for (int m : WRONG_M) {
            due("order(" + m + ", 1)", x.order(m, 1), -1);
        }
    }

    private static void promise5() {
        promise = 5;
        FieldsByClasses x = new FieldsByClasses();
        due("make(63, 0)", x.make(63, 0L), 0);
        due("group(0)", x.group(0), 2L);
        due("make(63, 1)", x.make(63, bits(62)), 1);
        due("group(1)", x.group(1), bits(1, 62));
        due("make(1, 0)", x.make(1, 0L), 2);
        due("make(1, 1)", x.make(1, 1L), 2);
        due("make(2, 0)", x.make(2, 0L), 2);
        due("make(7, 3)", x.make(7, bits(3)), 2);
        due("make(7, 2)", x.make(7, bits(2)), 3);
        due("group(3)", x.group(3), bits(1, 2, 4));
        due("make(14, 9)", x.make(14, bits(9)), 3);
        due("make(14, 9 11)", x.make(14, bits(9, 11)), 3);
        due("make(28, 11, 15)", x.make(28, bits(11, 15)), 3);
        due("make(24, 5 7)", x.make(24, bits(5, 7)), 4);
        due("group(4)", x.group(4), bits(1, 5, 7, 11));
        due("tell(4, 0)", x.tell(4, 0), 24);
        due("make(24, 13 17)", x.make(24, bits(13, 17)), 5);
        due("tell(5, 0)", x.tell(5, 0), 4);
        for (int m : WRONG_M) {
            due("make(" + m + ", 0)", x.make(m, 0L), -1);
            due("make(" + m + ", 2)", x.make(m, 2L), -1);
        }
        due("make(1, 2)", x.make(1, 2L), -1);
        due("make(5, 1)", x.make(5, 1L), -1);
        due("make(5, bit 5)", x.make(5, bits(5)), -1);
        due("make(5, bits 1 6)", x.make(5, bits(1, 6)), -1);
        due("make(5, bit 63)", x.make(5, Long.MIN_VALUE), -1);
        due("make(63, bit 63)", x.make(63, Long.MIN_VALUE), -1);
        due("make(63, -1)", x.make(63, -1L), -1);
        due("make(63, bit 21)", x.make(63, bits(21)), -1);
        due("count(0)", x.count(0), 6);
        FieldsByClasses y = full();
        due("the 41st", y.make(5, 0L), -1);
        due("one that is there", y.make(3, 0L), 0);
        due("one that is there, by 9", y.make(9, bits(4)), 0);
        due("count(0)", y.count(0), 40);
    }

    private static void promise6() {
        promise = 6;
        FieldsByClasses x = new FieldsByClasses();
        due("powers(5, 1)", x.powers(5, 1), 0);
        due("tell(0, 0)", x.tell(0, 0), 1);
        due("powers(5, 2)", x.powers(5, 2), 1);
        due("group(1)", x.group(1), bits(1, 4));
        due("powers(5, 4)", x.powers(5, 4), 2);
        due("group(2)", x.group(2), bits(1));
        due("powers(5, 60)", x.powers(5, 60), 2);
        due("powers(5, 59)", x.powers(5, 59), 0);
        due("powers(61, 60)", x.powers(61, 60), 3);
        due("group(3)", x.group(3), bits(1));
        due("powers(63, 2)", x.powers(63, 2), 4);
        due("tell(4, 0)", x.tell(4, 0), 21);
        due("group(4)", x.group(4), bits(1, 4, 16));
        due("powers(1, 60)", x.powers(1, 60), 0);
        int[] wrongPowers = {Integer.MIN_VALUE, -1, 0, 61, Integer.MAX_VALUE};
        for (int k : wrongPowers) {
            due("powers(5, " + k + ")", x.powers(5, k), -1);
        }
        for (int m : WRONG_M) {
            due("powers(" + m + ", 2)", x.powers(m, 2), -1);
        }
        FieldsByClasses y = full();
        due("the 41st", y.powers(5, 4), -1);
        due("one that is there", y.powers(3, 2), 0);
    }

    private static void promise7() {
        promise = 7;
        FieldsByClasses x = new FieldsByClasses();
        x.make(8, bits(7));
        x.make(8, bits(3));
        due("join(0, 1)", x.join(0, 1), 2);
        due("group(2)", x.group(2), bits(1));
        due("tell(2, 0)", x.tell(2, 0), 8);
        due("join(1, 0)", x.join(1, 0), 2);
        due("join(0, 0)", x.join(0, 0), 0);
        x.make(3, 0L);
        due("join(0, 3)", x.join(0, 3), 4);
        due("tell(4, 0)", x.tell(4, 0), 24);
        due("group(4)", x.group(4), bits(1, 7));
        due("join(4, 3)", x.join(4, 3), 4);
        due("make(1, 0)", x.make(1, 0L), 5);
        due("join(5, 4)", x.join(5, 4), 4);
        due("join(5, 5)", x.join(5, 5), 5);
        due("make(61, 0)", x.make(61, 0L), 6);
        due("above 63", x.join(6, 3), -1);
        due("make(21, 0)", x.make(21, 0L), 7);
        due("make(9, 0)", x.make(9, 0L), 8);
        due("just 63", x.join(7, 8), 9);
        due("tell(9, 0)", x.tell(9, 0), 63);
        due("no such", x.join(0, 10), -1);
        due("no such", x.join(10, 0), -1);
        due("no such", x.join(-1, 0), -1);
        due("no such", x.join(0, Integer.MIN_VALUE), -1);
        due("count(0)", x.count(0), 10);
        FieldsByClasses y = full();
        due("the 41st", y.join(0, 1), -1);
        due("one that is there", y.join(1, 1), 1);
    }

    private static void promise8() {
        promise = 8;
        FieldsByClasses x = new FieldsByClasses();
        x.make(20, 0L);
        x.make(12, 0L);
        due("meet(0, 1)", x.meet(0, 1), 2);
        due("tell(2, 0)", x.tell(2, 0), 4);
        due("meet(1, 0)", x.meet(1, 0), 2);
        due("meet(0, 0)", x.meet(0, 0), 0);
        due("meet(0, 2)", x.meet(0, 2), 2);
        x.make(8, bits(7));
        due("meet(3, 0)", x.meet(3, 0), 4);
        due("tell(4, 0)", x.tell(4, 0), 1);
        due("meet(4, 0)", x.meet(4, 0), 4);
        x.make(61, 0L);
        due("above 63", x.meet(5, 0), -1);
        due("with BAR 1", x.meet(5, 4), 4);
        due("no such", x.meet(0, 6), -1);
        due("no such", x.meet(6, 0), -1);
        due("no such", x.meet(-1, 0), -1);
        due("no such", x.meet(0, Integer.MAX_VALUE), -1);
        FieldsByClasses y = full();
        due("the 41st", y.meet(0, 1), -1);
        due("one that is there", y.meet(1, 1), 1);
    }

    private static void promise9() {
        promise = 9;
        FieldsByClasses x = new FieldsByClasses();
        x.make(15, 0L);
        x.make(5, 0L);
        x.powers(5, 2);
        x.make(15, bits(2));
        x.make(1, 0L);
        x.make(61, 0L);
        boolean[][] due = {
            {true, false, false, false, false, false},
            {true, true, false, false, false, false},
            {true, true, true, false, false, false},
            {true, false, false, true, false, false},
            {true, true, true, true, true, true},
            {false, false, false, false, false, true}};
        for (int a = 0; a < 6; a++) {
            for (int b = 0; b < 6; b++) {
                due("liesIn(" + a + ", " + b + ")", x.liesIn(a, b), due[a][b]);
            }
            due("liesIn(" + a + ", 6)", x.liesIn(a, 6), false);
            due("liesIn(6, " + a + ")", x.liesIn(6, a), false);
            due("liesIn(-1, " + a + ")", x.liesIn(-1, a), false);
            due("liesIn(" + a + ", least)", x.liesIn(a, Integer.MIN_VALUE), false);
        }
        due("liesIn(-1, -1)", x.liesIn(-1, -1), false);
        due("count(0)", x.count(0), 6);
    }

    private static void promise10() {
        promise = 10;
        FieldsByClasses x = new FieldsByClasses();
        x.make(1, 0L);
        x.make(4, 0L);
        x.make(56, 0L);
        x.make(63, bits(62));
        x.make(61, 0L);
        x.make(7, bits(6));
        x.make(16, bits(7));
        x.make(7, 0L);
        x.make(8, bits(7));
        x.make(63, 0L);
        int[][] due = {{1, 1, 1, 1, 1, 1}, {4, 2, 0, 1, -1, 2}, {56, 24, 0, 0, 1, 32}, {63, 18, 1, 0, 1, 12},
            {61, 60, 0, 1, 1, 12}, {7, 3, 1, 1, 1, 2}, {16, 4, 0, 1, 1, 3}, {7, 6, 0, 1, -1, 4}, {8, 2, 1, 1, 1, 2},
            {63, 36, 0, 0, 1, 30}};
        for (int field = 0; field < due.length; field++) {
            for (int what = 0; what < 6; what++) {
                due("tell(" + field + ", " + what + ")", x.tell(field, what), due[field][what]);
            }
            due("tell(" + field + ", 6)", x.tell(field, 6), -9);
            due("tell(" + field + ", -1)", x.tell(field, -1), -9);
            due("tell(" + field + ", most)", x.tell(field, Integer.MAX_VALUE), -9);
        }
        due("tell(10, 0)", x.tell(10, 0), -9);
        due("tell(-1, 0)", x.tell(-1, 0), -9);
        due("tell(least, 0)", x.tell(Integer.MIN_VALUE, 0), -9);
        due("tell(40, 0)", full().tell(40, 0), -9);
    }

    private static void promise11() {
        promise = 11;
        FieldsByClasses x = new FieldsByClasses();
        x.make(1, 0L);
        x.make(61, bits(60));
        x.make(63, bits(62));
        x.make(21, bits(20));
        x.make(21, bits(8));
        due("group(0)", x.group(0), 1L);
        due("group(1)", x.group(1), bits(1, 60));
        due("group(2)", x.group(2), bits(1, 62));
        due("group(3)", x.group(3), bits(1, 20));
        due("group(4), by its BAR 7", x.group(4), bits(1));
        due("group(5)", x.group(5), -1L);
        due("group(-1)", x.group(-1), -1L);
        due("group(most)", x.group(Integer.MAX_VALUE), -1L);
        due("group(least)", x.group(Integer.MIN_VALUE), -1L);
        due("group(39)", full().group(39) >= 0, true);
        due("group(40)", full().group(40), -1L);
    }

    private static void promise12() {
        promise = 12;
        FieldsByClasses x = new FieldsByClasses();
        x.make(4, 0L);
        x.make(63, 0L);
        x.make(1, 0L);
        x.make(56, bits(13));
        partsAre(x, 0, 2, 2, 1, 1);
        partsAre(x, 0, 3, 1, 2, 1);
        partsAre(x, 0, 997, 1, 1, 2);
        partsAre(x, 0, 991, 1, 2, 1);
        partsAre(x, 1, 2, 1, 6, 6);
        partsAre(x, 1, 3, 6, 6, 1);
        partsAre(x, 1, 7, 6, 3, 2);
        partsAre(x, 1, 127, 1, 1, 36);
        partsAre(x, 2, 2, 1, 1, 1);
        partsAre(x, 2, 997, 1, 1, 1);
        partsAre(x, 3, 2, 4, 3, 1);
        partsAre(x, 3, 7, 6, 2, 1);
        for (int p : WRONG_PRIMES) {
            due("parts(0, " + p + ", 0)", x.parts(0, p, 0), -1);
        }
        due("parts(0, 5, 3)", x.parts(0, 5, 3), -1);
        due("parts(0, 5, -1)", x.parts(0, 5, -1), -1);
        due("parts(0, 5, most)", x.parts(0, 5, Integer.MAX_VALUE), -1);
        due("parts(4, 5, 0)", x.parts(4, 5, 0), -1);
        due("parts(-1, 5, 0)", x.parts(-1, 5, 0), -1);
        due("parts(least, 5, 0)", x.parts(Integer.MIN_VALUE, 5, 0), -1);
    }

    private static void promise13() {
        promise = 13;
        FieldsByClasses x = new FieldsByClasses();
        x.make(61, 0L);
        x.make(63, 0L);
        x.make(32, 0L);
        x.make(8, bits(7));
        x.make(1, 0L);
        x.make(12, bits(11));
        int[][] due = {{0, 61, 59}, {0, 2, 0}, {0, 997, 0}, {1, 3, 54}, {1, 7, 30}, {1, 2, 0}, {2, 2, 64}, {3, 2, 3}, {3, 3, 0},
            {4, 2, 0}, {4, 997, 0}, {5, 2, 2}, {5, 3, 1}};
        for (int[] row : due) {
            due("discriminant(" + row[0] + ", " + row[1] + ")", x.discriminant(row[0], row[1]), row[2]);
        }
        for (int p : WRONG_PRIMES) {
            due("discriminant(0, " + p + ")", x.discriminant(0, p), -1);
        }
        due("discriminant(6, 2)", x.discriminant(6, 2), -1);
        due("discriminant(-1, 2)", x.discriminant(-1, 2), -1);
        due("discriminant(most, 2)", x.discriminant(Integer.MAX_VALUE, 2), -1);
    }

    private static void promise14() {
        promise = 14;
        int[] whole = {1, 40, 10, 55, 5, 36, 3, 31};
        FieldsByClasses x = new FieldsByClasses();
        for (int degree = 1; degree <= 8; degree++) {
            due("list(" + degree + ", 1)", x.list(degree, 1), degree == 1 ? 1 : 0);
            due("list(" + degree + ", 63)", x.list(degree, 63), whole[degree - 1]);
            due("list(" + degree + ", 63) first", new FieldsByClasses().list(degree, 63), whole[degree - 1]);
            due("list(" + degree + ", 2)", x.list(degree, 2), degree == 1 ? 1 : 0);
        }
        due("list(2, 3)", x.list(2, 3), 1);
        due("list(2, 7)", x.list(2, 7), 4);
        due("list(2, 8)", x.list(2, 8), 6);
        due("list(2, 12)", x.list(2, 12), 8);
        due("list(3, 6)", x.list(3, 6), 0);
        due("list(3, 7)", x.list(3, 7), 1);
        due("list(4, 16)", x.list(4, 16), 8);
        due("list(8, 15)", x.list(8, 15), 1);
        int[] wrongDegrees = {Integer.MIN_VALUE, -1, 0, 9, Integer.MAX_VALUE};
        for (int degree : wrongDegrees) {
            due("list(" + degree + ", 5)", x.list(degree, 5), -1);
        }
        for (int bound : WRONG_M) {
            due("list(2, " + bound + ")", x.list(2, bound), -1);
        }
        due("count(0)", x.count(0), 0);
    }

    private static void promise15() {
        promise = 15;
        FieldsByClasses x = new FieldsByClasses();
        int[] bars = {3, 4, 5, 7, 8, 8, 11, 12};
        long[] groups = {bits(1), bits(1), bits(1, 4), bits(1, 2, 4), bits(1, 3), bits(1, 7), bits(1, 3, 4, 5, 9),
            bits(1, 11)};
        for (int k = 7; k >= 0; k--) {
            due("listed(2, 12, " + k + ")", x.listed(2, 12, k), 7 - k);
            due("tell(" + (7 - k) + ", 0)", x.tell(7 - k, 0), bars[k]);
            due("group(" + (7 - k) + ")", x.group(7 - k), groups[k]);
        }
        due("listed(2, 63, 7)", x.listed(2, 63, 7), 0);
        due("listed(2, 12, 8)", x.listed(2, 12, 8), -1);
        due("listed(2, 12, -1)", x.listed(2, 12, -1), -1);
        due("listed(2, 12, most)", x.listed(2, 12, Integer.MAX_VALUE), -1);
        due("listed(2, 12, least)", x.listed(2, 12, Integer.MIN_VALUE), -1);
        due("listed(1, 1, 0)", x.listed(1, 1, 0), 8);
        due("listed(1, 63, 1)", x.listed(1, 63, 1), -1);
        due("listed(8, 63, 30)", x.listed(8, 63, 30), 9);
        due("listed(8, 63, 31)", x.listed(8, 63, 31), -1);
        due("listed(8, 14, 0)", x.listed(8, 14, 0), -1);
        due("listed(8, 15, 0)", x.listed(8, 15, 0), 10);
        due("group(10)", x.group(10), 2L);
        due("listed(0, 63, 0)", x.listed(0, 63, 0), -1);
        due("listed(9, 63, 0)", x.listed(9, 63, 0), -1);
        due("listed(2, 0, 0)", x.listed(2, 0, 0), -1);
        due("listed(2, 64, 0)", x.listed(2, 64, 0), -1);
        due("count(0)", x.count(0), 11);
        for (int degree = 1; degree <= 8; degree++) {
            listIsInOrder(degree);
        }
        FieldsByClasses y = full();
        due("the 41st", y.listed(3, 63, 0), -1);
        due("one that is there", y.listed(2, 63, 39), 39);
        due("list(3, 63)", y.list(3, 63), 10);
    }

    private static void listIsInOrder(int degree) {
        FieldsByClasses x = new FieldsByClasses();
        int bar = 0;
        long bits = -1;
        for (int k = 0; k < x.list(degree, 63); k++) {
            x.clear();
            due("listed(" + degree + ", 63, " + k + ")", x.listed(degree, 63, k), 0);
            boolean inOrder = x.tell(0, 0) > bar || x.tell(0, 0) == bar && x.group(0) > bits;
            due("listed(" + degree + ", 63, " + k + ") is in order", inOrder, true);
            due("its DEGREE", x.tell(0, 1), degree);
            bar = x.tell(0, 0);
            bits = x.group(0);
        }
    }

    private static void promise16() {
        promise = 16;
        FieldsByClasses x = new FieldsByClasses();
        polynomialIs(x, x.make(1, 0L), -1, 1);
        polynomialIs(x, x.powers(7, 2), 2, 1, 1);
        polynomialIs(x, x.powers(61, 2), -15, 1, 1);
        polynomialIs(x, x.make(15, bits(2)), 4, -1, 1);
        polynomialIs(x, x.make(12, bits(11)), -3, 0, 1);
        polynomialIs(x, x.make(4, 0L), 1, 0, 1);
        polynomialIs(x, x.powers(13, 3), 1, -4, 1, 1);
        polynomialIs(x, x.make(11, bits(10)), 1, 3, -3, -4, 1, 1);
        polynomialIs(x, x.make(9, 0L), 1, 0, 0, 1, 0, 0, 1);
        polynomialIs(x, x.make(15, 0L), 1, -1, 0, 1, -1, 1, 0, -1, 1);
        polynomialIs(x, x.make(24, 0L), 1, 0, 0, 0, -1, 0, 0, 0, 1);
        polynomialIs(x, x.make(24, bits(23)), 1, 0, -4, 0, 1);
        int nine = x.powers(19, 9);
        due("DEGREE 9", x.tell(nine, 1), 9);
        due("DEGREE 9", x.polynomial(nine, 0), NO_NUMBER);
        due("DEGREE 9", x.polynomial(nine, 9), NO_NUMBER);
        due("no such", x.polynomial(nine + 1, 0), NO_NUMBER);
        due("no such", x.polynomial(-1, 0), NO_NUMBER);
        due("no such", x.polynomial(Integer.MAX_VALUE, 0), NO_NUMBER);
        due("no such", x.polynomial(0, Integer.MIN_VALUE), NO_NUMBER);
        due("no such", x.polynomial(0, Integer.MAX_VALUE), NO_NUMBER);
    }

    private static void promise17() {
        promise = 17;
        FieldsByClasses x = new FieldsByClasses();
        x.make(4, 0L);
        x.make(15, 0L);
        x.make(1, 0L);
        x.powers(61, 2);
        x.powers(19, 9);
        int[][] due = {{0, 2, 1}, {0, 3, 0}, {0, 5, 2}, {0, 997, 2}, {0, 991, 0}, {1, 31, 8}, {1, 2, 0}, {1, 3, 0}, {1, 5, 0},
            {1, 991, 8}, {2, 2, 1}, {2, 997, 1}, {3, 3, 2}, {3, 5, 2}, {3, 61, 1}, {3, 2, 0}};
        for (int[] row : due) {
            due("roots(" + row[0] + ", " + row[1] + ")", x.roots(row[0], row[1]), row[2]);
        }
        for (int p : WRONG_PRIMES) {
            due("roots(0, " + p + ")", x.roots(0, p), -1);
        }
        due("DEGREE 9", x.roots(4, 37), -1);
        due("roots(5, 2)", x.roots(5, 2), -1);
        due("roots(-1, 2)", x.roots(-1, 2), -1);
        due("roots(least, 2)", x.roots(Integer.MIN_VALUE, 2), -1);
    }

    private static void promise18() {
        promise = 18;
        FieldsByClasses x = new FieldsByClasses();
        x.make(1, 0L);
        due("count(0)", x.count(0), 1);
        due("count(1)", x.count(1), 1);
        x.make(61, 0L);
        x.make(62, 0L);
        x.make(7, 0L);
        due("count(0)", x.count(0), 4);
        due("count(1)", x.count(1), 61);
        due("count(2)", x.count(2), -1);
        due("count(-1)", x.count(-1), -1);
        due("count(most)", x.count(Integer.MAX_VALUE), -1);
        FieldsByClasses y = full();
        due("count(0)", y.count(0), 40);
        due("count(1)", y.count(1), 61);
    }

    private static void promise19() {
        promise = 19;
        FieldsByClasses x = full();
        x.image(2);
        x.clear();
        due("count(0)", x.count(0), 0);
        due("count(1)", x.count(1), 0);
        due("group(0)", x.group(0), -1L);
        due("tell(0, 0)", x.tell(0, 0), -9);
        due("liesIn(0, 0)", x.liesIn(0, 0), false);
        due("make(5, 0)", x.make(5, 0L), 0);
        due("make(3, 0)", x.make(3, 0L), 1);
        x.clear();
        x.clear();
        due("count(0)", x.count(0), 0);
        due("the images stay", x.again(2), true);
        due("count(0)", x.count(0), 40);
    }

    private static void promise20() {
        promise = 20;
        FieldsByClasses x = new FieldsByClasses();
        int[] wrongImages = {Integer.MIN_VALUE, -1, 3, 4, Integer.MAX_VALUE};
        for (int k : wrongImages) {
            due("image(" + k + ")", x.image(k), false);
        }
        due("image(0) of nothing", x.image(0), true);
        x.make(5, 0L);
        due("image(1)", x.image(1), true);
        x.make(3, 0L);
        due("image(2)", x.image(2), true);
        x.make(7, 0L);
        due("again(0)", x.again(0), true);
        due("count(0)", x.count(0), 0);
        due("again(2)", x.again(2), true);
        due("count(0)", x.count(0), 2);
        due("again(1)", x.again(1), true);
        due("count(0)", x.count(0), 1);
        x.make(61, 0L);
        due("image(1) anew", x.image(1), true);
        x.clear();
        due("again(1)", x.again(1), true);
        due("count(0)", x.count(0), 2);
        due("count(1)", x.count(1), 61);
    }

    private static void promise21() {
        promise = 21;
        FieldsByClasses x = new FieldsByClasses();
        x.make(5, 0L);
        x.make(63, bits(62));
        x.image(1);
        for (int k = -1; k <= 3; k++) {
            due("again(" + k + ")", x.again(k), k == 1);
        }
        due("again(most)", x.again(Integer.MAX_VALUE), false);
        due("again(least)", x.again(Integer.MIN_VALUE), false);
        x.clear();
        x.make(7, 0L);
        x.make(8, 0L);
        x.make(9, 0L);
        x.image(0);
        due("again(1)", x.again(1), true);
        due("count(0)", x.count(0), 2);
        due("group(0)", x.group(0), 2L);
        due("tell(0, 0)", x.tell(0, 0), 5);
        due("group(1)", x.group(1), bits(1, 62));
        due("group(2)", x.group(2), -1L);
        // What is made now must not go into the image.
        due("make(61, 0)", x.make(61, 0L), 2);
        due("again(1)", x.again(1), true);
        due("count(0)", x.count(0), 2);
        due("count(1)", x.count(1), 63);
        due("the other image", x.again(0), true);
        due("tell(2, 0)", x.tell(2, 0), 9);
        due("count(0)", x.count(0), 3);
    }
}
