import java.math.BigInteger;
import java.util.ArrayList;
import java.util.List;

/** Promises 1 to 11 and 29 to 32: numbers on the desk. */
public final class DeskPromisesTest extends Tests {
    private static final BigInteger TWO = BigInteger.TWO;
    private static final int MIN = Integer.MIN_VALUE;
    private static final int MAX = Integer.MAX_VALUE;

    public static void main(String[] args) {
        DeskPromisesTest t = new DeskPromisesTest();
        t.promise(1, t::newObject);
        t.promise(2, t::put);
        t.promise(3, t::make);
        t.promise(4, t::work);
        t.promise(5, t::root);
        t.promise(6, t::power);
        t.promise(7, t::inverse);
        t.promise(8, t::shift);
        t.promise(9, t::lucas);
        t.promise(10, t::fetch);
        t.promise(11, t::take);
        t.promise(29, t::desk);
        t.promise(30, t::number);
        t.promise(31, t::bit);
        t.promise(32, t::compare);
        t.end();
    }

    /** Puts any number on a place, from its bits. */
    private static void lay(Witnesshall x, int place, BigInteger value) {
        x.put(place, 0);
        BigInteger left = value.abs();
        for (int at = 120; at >= 0; at -= 24) {
            x.shift(place, place, 24);
            x.put(9, left.shiftRight(at).intValue() & 0xffffff);
            x.work(place, value.signum() < 0 ? 1 : 0, place, 9);
        }
        x.put(9, 0);
    }

    private void lies(Witnesshall x, int place, BigInteger due) {
        is(x.desk(place, 10), due.toString());
    }

    private void lies(Witnesshall x, int place, long due) {
        is(x.desk(place, 10), String.valueOf(due));
    }

    private void newObject() {
        Witnesshall x = new Witnesshall();
        is(x.digest(), -2710873532809964574L);
        for (int place = 0; place < 10; place++) {
            lies(x, place, 0);
        }
        for (int what = 0; what < 10; what++) {
            is(x.count(what), 0);
        }
        is(x.sheetText(), "");
        x.put(3, 7);
        x.knock();
        is(new Witnesshall().digest(), -2710873532809964574L);
    }

    private void put() {
        Witnesshall x = new Witnesshall();
        int[][] due = {{0, 0}, {1, 1}, {-1, 0}, {2, 2}, {-2, 1}, {3, 2}, {-3, 2}, {4, 3}, {-4, 2}, {-5, 3}, {255, 8},
            {256, 9}, {-256, 8}, {-257, 9}, {1 << 29, 30}, {(1 << 30) - 1, 30}, {1 << 30, 31}, {-(1 << 30), 30}, {MAX, 31},
            {MIN, 31}, {-MAX, 31}};
        for (int[] pair : due) {
            is(x.put(0, pair[0]), pair[1]);
            lies(x, 0, pair[0]);
        }
        is(x.put(9, 5), 3);
        lies(x, 9, 5);
        lies(x, 0, -MAX);
        noIndex(x, () -> x.put(10, 1));
        noIndex(x, () -> x.put(-1, 1));
        noIndex(x, () -> x.put(MIN, 1));
    }

    private void make() {
        Witnesshall x = new Witnesshall();
        is(x.make(0, 2, 0, 0), 1);
        lies(x, 0, 1);
        is(x.make(0, 2, 0, -1000), 10);
        lies(x, 0, -999);
        is(x.make(0, 1000, 1, 1000), 11);
        lies(x, 0, 2000);
        is(x.make(0, 2, 129, 1000), 130);
        lies(x, 0, TWO.pow(129).add(BigInteger.valueOf(1000)));
        is(x.make(0, 4, 65, -1), 130);
        lies(x, 0, TWO.pow(130).subtract(BigInteger.ONE));
        is(x.make(0, 1000, 13, -1), 130);
        lies(x, 0, BigInteger.valueOf(1000).pow(13).subtract(BigInteger.ONE));
        is(x.make(0, 3, 81, 2), 129);
        lies(x, 0, BigInteger.valueOf(3).pow(81).add(TWO));
        noState(x, () -> x.make(0, 4, 65, 0));
        noState(x, () -> x.make(0, 4, 65, 1));
        noState(x, () -> x.make(0, 1000, 14, 0));
        noState(x, () -> x.make(0, 1000, 129, -1000));
        noState(x, () -> x.make(0, 3, 129, -1));
        noArgument(x, () -> x.make(0, 1, 129, 0));
        noArgument(x, () -> x.make(0, 1001, 1, 0));
        noArgument(x, () -> x.make(0, 2, -1, 0));
        noArgument(x, () -> x.make(0, 2, 130, 0));
        noArgument(x, () -> x.make(0, 2, 1, 1001));
        noArgument(x, () -> x.make(0, 2, 1, -1001));
        noArgument(x, () -> x.make(0, 1000, 130, 0));
        noIndex(x, () -> x.make(10, 1, 1, 1));
        noIndex(x, () -> x.make(-1, 1000, 129, 0));
    }

    private void work() {
        Witnesshall x = new Witnesshall();
        long[][] due = {
            {7, 3, 10, 4, 21, 2, 1, 1, 1}, {-7, 3, -4, -10, -21, -2, -1, 2, 1}, {7, -3, 4, 10, -21, -2, 1, -9, 1},
            {-7, -3, -10, -4, 21, 2, -1, -9, 1}, {0, 5, 5, -5, 0, 0, 0, 0, 5}, {12, -18, -6, 30, -216, 0, 12, -9, 6},
            {-6, 6, 0, -12, -36, -1, 0, 0, 6}, {MAX, MAX, 2L * MAX, 0, (long) MAX * MAX, 1, 0, 0, MAX},
            {MIN, MAX, -1, 2L * MIN + 1, (long) MIN * MAX, -1, -1, MAX - 1, 1}};
        for (long[] row : due) {
            for (int what = 0; what <= 6; what++) {
                x.put(1, (int) row[0]);
                x.put(2, (int) row[1]);
                x.put(3, 77);
                int told = x.work(3, what, 1, 2);
                if (row[what + 2] == -9) {
                    is(told, -9);
                    lies(x, 3, 77);
                } else {
                    lies(x, 3, row[what + 2]);
                    is(told, Reference.length(BigInteger.valueOf(row[what + 2])));
                }
            }
        }
        x.put(1, 5);
        x.put(2, 0);
        x.put(3, 77);
        for (int what = 3; what <= 5; what++) {
            is(x.work(3, what, 1, 2), -9);
            lies(x, 3, 77);
        }
        is(x.work(3, 6, 2, 2), 0);
        is(x.work(3, 6, 1, 2), 3);
        is(x.work(1, 2, 1, 1), 5);
        lies(x, 1, 25);
        bigWork(x);
        edgeWork(new Witnesshall());
        noArgument(x, () -> x.work(0, -1, 0, 0));
        noArgument(x, () -> x.work(0, 7, 0, 0));
        noIndex(x, () -> x.work(10, 7, 0, 0));
        noIndex(x, () -> x.work(0, 7, -1, 0));
        noIndex(x, () -> x.work(0, 0, 0, 10));
    }

    private void bigWork(Witnesshall x) {
        BigInteger a = new BigInteger("-987654321987654321987654321987654321987");
        BigInteger b = new BigInteger("123456789123456789123456789");
        lay(x, 1, a);
        lay(x, 2, b);
        x.work(3, 3, 1, 2);
        lies(x, 3, a.divide(b));
        x.work(3, 4, 1, 2);
        lies(x, 3, a.remainder(b));
        x.work(3, 5, 1, 2);
        lies(x, 3, a.mod(b));
        x.work(3, 6, 1, 2);
        lies(x, 3, a.gcd(b));
        BigInteger least = TWO.pow(130).negate();
        lay(x, 1, TWO.pow(129).negate());
        is(x.work(1, 0, 1, 1), 130);
        lies(x, 1, least);
        lay(x, 2, TWO.pow(65));
        lay(x, 4, BigInteger.ONE);
        lay(x, 5, BigInteger.ONE.negate());
        x.put(6, 0);
        noState(x, () -> x.work(3, 1, 1, 4));
        noState(x, () -> x.work(3, 1, 6, 1));
        noState(x, () -> x.work(3, 2, 2, 2));
        noState(x, () -> x.work(3, 2, 1, 1));
        noState(x, () -> x.work(3, 3, 1, 5));
        noState(x, () -> x.work(3, 6, 1, 1));
        noState(x, () -> x.work(3, 6, 6, 1));
        is(x.work(3, 4, 1, 5), 0);
        is(x.work(3, 0, 1, 4), 130);
        is(x.work(3, 6, 1, 2), 66);
    }

    /** Numbers whose bits are nearly all the same, where a digit of a quotient is easily guessed one too great. */
    private void edgeWork(Witnesshall x) {
        List<BigInteger> numbers = new ArrayList<>();
        for (int a : new int[] {29, 30, 59, 60, 70, 89, 90, 120, 129}) {
            for (int b : new int[] {0, 11, 29, 30, 31, 60, 61, 89}) {
                if (b < a) {
                    BigInteger high = TWO.pow(a);
                    numbers.add(high.add(TWO.pow(b)).subtract(BigInteger.ONE));
                    numbers.add(high.subtract(TWO.pow(b)));
                    numbers.add(high.multiply(BigInteger.valueOf(5)).shiftRight(a > 100 ? 5 : 0).negate());
                }
            }
        }
        for (BigInteger a : numbers) {
            lay(x, 0, a);
            for (BigInteger b : numbers) {
                lay(x, 1, b);
                x.work(2, 3, 0, 1);
                x.work(3, 4, 0, 1);
                if (!x.desk(2, 10).equals(a.divide(b).toString()) || !x.desk(3, 10).equals(a.remainder(b).toString())) {
                    is(x.desk(2, 10) + " " + x.desk(3, 10), a.divide(b) + " " + a.remainder(b));
                }
                x.work(3, 6, 0, 1);
                if (!x.desk(3, 10).equals(a.gcd(b).toString())) {
                    is(x.desk(3, 10), a.gcd(b).toString());
                }
                BigInteger product = a.multiply(b);
                if (Reference.length(product) <= 130) {
                    x.work(3, 2, 0, 1);
                    is(x.desk(3, 10), product.toString());
                }
            }
        }
    }

    private void root() {
        Witnesshall x = new Witnesshall();
        int[][] due = {{0, 0}, {1, 1}, {2, 1}, {3, 1}, {4, 2}, {8, 2}, {9, 3}, {99, 9}, {100, 10}, {MAX, 46340}};
        for (int[] pair : due) {
            x.put(1, pair[0]);
            is(x.root(2, 1), Reference.length(BigInteger.valueOf(pair[1])));
            lies(x, 2, pair[1]);
        }
        for (BigInteger r : new BigInteger[] {TWO.pow(65).subtract(BigInteger.ONE), new BigInteger("12345678901234567890")}) {
            lay(x, 1, r.multiply(r));
            is(x.root(1, 1), r.bitLength());
            lies(x, 1, r);
            lay(x, 1, r.multiply(r).subtract(BigInteger.ONE));
            x.root(2, 1);
            lies(x, 2, r.subtract(BigInteger.ONE));
        }
        x.put(1, -1);
        x.put(2, 5);
        is(x.root(2, 1), -9);
        lies(x, 2, 5);
        noIndex(x, () -> x.root(10, 0));
        noIndex(x, () -> x.root(0, -1));
    }

    private void power() {
        Witnesshall x = new Witnesshall();
        long[][] due = {{3, 4, 5, 1}, {2, 10, 1000, 24}, {7, 0, 5, 1}, {7, 0, 1, 0}, {2, 0, 4, 1}, {-6, 0, 3, 1}, {0, 5, 7, 0}, {-2, 3, 7, 6},
            {3, -1, 7, 5}, {3, -2, 7, 4}, {2, -1, 4, -9}, {0, -1, 5, -9}, {0, -1, 1, 0}, {0, 1, 1, 0}, {5, 3, 0, -9},
            {5, 3, -7, -9}, {5, -3, -7, -9}, {-3, -1, 10, 3}, {4, 13, 497, 445}};
        for (long[] row : due) {
            x.put(1, (int) row[0]);
            x.put(2, (int) row[1]);
            x.put(3, (int) row[2]);
            x.put(4, 99);
            int told = x.power(4, 1, 2, 3);
            is(told, row[3] == -9 ? -9 : Reference.length(BigInteger.valueOf(row[3])));
            lies(x, 4, row[3] == -9 ? 99 : row[3]);
        }
        BigInteger m = TWO.pow(130).subtract(BigInteger.valueOf(5));
        BigInteger a = new BigInteger("-55555555555555555555555555555555555555");
        BigInteger e = TWO.pow(129).add(BigInteger.valueOf(12345));
        lay(x, 1, a);
        lay(x, 2, e);
        lay(x, 3, m);
        x.power(4, 1, 2, 3);
        lies(x, 4, a.modPow(e, m));
        lay(x, 2, e.negate());
        x.power(4, 1, 2, 3);
        lies(x, 4, a.modPow(e.negate(), m));
        x.put(1, 0);
        x.put(2, 0);
        x.put(3, 0);
        noState(x, () -> x.power(4, 1, 2, 3));
        x.put(3, 5);
        noState(x, () -> x.power(4, 1, 2, 3));
        noIndex(x, () -> x.power(10, 1, 2, 3));
        noIndex(x, () -> x.power(4, 10, 2, 3));
        noIndex(x, () -> x.power(4, 1, -1, 3));
        noIndex(x, () -> x.power(4, 1, 2, 10));
    }

    private void inverse() {
        Witnesshall x = new Witnesshall();
        int[][] due = {{3, 7, 5}, {-3, 7, 2}, {1, 2, 1}, {10, 17, 12}, {0, 1, 0}, {5, 1, 0}, {2, 4, -9}, {0, 5, -9},
            {0, 0, -9}, {3, 0, -9}, {3, -7, -9}, {8, 15, 2}};
        for (int[] row : due) {
            x.put(1, row[0]);
            x.put(2, row[1]);
            x.put(3, 99);
            is(x.inverse(3, 1, 2), row[2] == -9 ? -9 : Reference.length(BigInteger.valueOf(row[2])));
            lies(x, 3, row[2] == -9 ? 99 : row[2]);
        }
        BigInteger a = new BigInteger("-1234567890123456789012345678901234567");
        BigInteger m = TWO.pow(127).subtract(BigInteger.ONE);
        lay(x, 1, a);
        lay(x, 2, m);
        x.inverse(3, 1, 2);
        lies(x, 3, a.modInverse(m));
        noIndex(x, () -> x.inverse(10, 0, 0));
        noIndex(x, () -> x.inverse(0, -1, 0));
        noIndex(x, () -> x.inverse(0, 0, 10));
    }

    private void shift() {
        Witnesshall x = new Witnesshall();
        int[][] due = {{5, 1, 10}, {-5, 1, -10}, {5, -1, 2}, {-5, -1, -3}, {-1, -140, -1}, {1, -140, 0}, {-4, -2, -1},
            {-4, -1, -2}, {7, 0, 7}, {0, 140, 0}, {0, -140, 0}, {MIN, -31, -1}, {MIN, -30, -2}, {1, 30, 1 << 30}};
        for (int[] row : due) {
            x.put(1, row[0]);
            is(x.shift(2, 1, row[1]), Reference.length(BigInteger.valueOf(row[2])));
            lies(x, 2, row[2]);
        }
        x.put(1, -1);
        is(x.shift(3, 1, 130), 130);
        lies(x, 3, TWO.pow(130).negate());
        noState(x, () -> x.shift(2, 1, 131));
        is(x.shift(4, 3, -100), 30);
        lies(x, 4, -(1 << 30));
        x.put(1, 1);
        is(x.shift(3, 1, 129), 130);
        noState(x, () -> x.shift(2, 1, 130));
        noState(x, () -> x.shift(2, 3, 140));
        noArgument(x, () -> x.shift(2, 1, 141));
        noArgument(x, () -> x.shift(2, 0, -141));
        noIndex(x, () -> x.shift(10, 1, 141));
        noIndex(x, () -> x.shift(2, -1, 0));
    }

    private void lucas() {
        Witnesshall x = new Witnesshall();
        x.put(2, 1000000);
        int[] fibonacci = {0, 1, 1, 2, 3, 5, 8, 13, 21, 34, 55};
        for (int k = 0; k < fibonacci.length; k++) {
            x.put(1, k);
            x.lucas(3, 1, -1, 1, 2);
            lies(x, 3, fibonacci[k]);
        }
        x.put(2, 10);
        x.put(1, 7);
        is(x.lucas(3, 1, -1, 1, 2), 2);
        lies(x, 3, 3);
        x.put(2, 1);
        is(x.lucas(3, 1, -1, 1, 2), 0);
        x.put(1, 1);
        is(x.lucas(3, 1, -1, 1, 2), 0);
        x.put(2, 7);
        x.put(1, 4);
        x.lucas(3, 2, 3, 1, 2);
        lies(x, 3, 3);
        x.make(1, 2, 100, 0);
        x.make(2, 10, 30, 0);
        x.lucas(3, 1, -1, 1, 2);
        is(x.desk(3, 10), fibonacciMod(TWO.pow(100), BigInteger.TEN.pow(30)).toString());
        x.make(2, 2, 129, 7);
        x.lucas(3, 100, -100, 1, 2);
        x.lucas(4, 100, 100, 1, 2);
        is(x.desk(3, 10), recurrence(100, -100, TWO.pow(129).add(BigInteger.valueOf(7))));
        is(x.desk(4, 10), recurrence(100, 100, TWO.pow(129).add(BigInteger.valueOf(7))));
        x.put(2, 0);
        is(x.lucas(3, 1, -1, 1, 2), -9);
        x.put(2, -5);
        is(x.lucas(3, 1, -1, 1, 2), -9);
        x.put(1, -1);
        noState(x, () -> x.lucas(3, 1, -1, 1, 2));
        noArgument(x, () -> x.lucas(3, 0, -1, 1, 2));
        noArgument(x, () -> x.lucas(3, 101, 1, 0, 0));
        noArgument(x, () -> x.lucas(3, 1, 0, 0, 0));
        noArgument(x, () -> x.lucas(3, 1, 101, 0, 0));
        noArgument(x, () -> x.lucas(3, 1, -101, 0, 0));
        noIndex(x, () -> x.lucas(10, 0, 0, 0, 0));
        noIndex(x, () -> x.lucas(0, 0, 0, 10, 0));
        noIndex(x, () -> x.lucas(0, 0, 0, 0, -1));
    }

    private static BigInteger fibonacciMod(BigInteger k, BigInteger m) {
        BigInteger a = BigInteger.ZERO;
        BigInteger b = BigInteger.ONE;
        for (int i = k.bitLength() - 1; i >= 0; i--) {
            BigInteger c = a.multiply(b.add(b).subtract(a)).mod(m);
            BigInteger d = a.multiply(a).add(b.multiply(b)).mod(m);
            a = k.testBit(i) ? d : c;
            b = k.testBit(i) ? c.add(d) : d;
        }
        return a.mod(m);
    }

    /** U(2^100) by U(2k) = U(k) * V(k) and V(2k) = V(k)^2 - 2 * Q^k. */
    private static String recurrence(int p, int q, BigInteger m) {
        BigInteger u = BigInteger.ONE;
        BigInteger v = BigInteger.valueOf(p);
        BigInteger power = BigInteger.valueOf(q);
        for (int i = 0; i < 100; i++) {
            u = u.multiply(v).mod(m);
            v = v.multiply(v).subtract(power.add(power)).mod(m);
            power = power.multiply(power).mod(m);
        }
        return u.toString();
    }

    private void fetch() {
        Witnesshall x = new Witnesshall();
        x.put(0, 561);
        is(x.seek(6, 0), 3);
        is(x.fetch(5, 3, 0), 10);
        lies(x, 5, 561);
        is(x.fetch(5, 3, 1), 2);
        lies(x, 5, 3);
        is(x.fetch(6, 3, 3), 5);
        lies(x, 6, 17);
        noIndex(x, () -> x.fetch(5, 3, 4));
        noIndex(x, () -> x.fetch(5, 3, -1));
        noIndex(x, () -> x.fetch(5, 4, 0));
        noIndex(x, () -> x.fetch(5, -1, 0));
        noIndex(x, () -> x.fetch(10, 3, 0));
        noIndex(x, () -> x.fetch(5, 0, 1));
        x.make(1, 2, 127, -1);
        is(x.seek(11, 1), 4);
        is(x.fetch(7, 4, 0), 127);
        lies(x, 7, TWO.pow(127).subtract(BigInteger.ONE));
        x.withdraw(3);
        is(x.fetch(7, 3, 2), 4);
    }

    private void take() {
        Witnesshall x = new Witnesshall();
        x.decide(7);
        x.put(0, 7);
        x.begin(0);
        noIndex(x, () -> x.take(1, 0, 1));
        is(x.grow(0, false), 2);
        is(x.take(1, 0, 0), 3);
        lies(x, 1, 7);
        is(x.take(1, 0, 1), 5);
        lies(x, 1, 29);
        noIndex(x, () -> x.take(1, 0, 2));
        noIndex(x, () -> x.take(1, 0, -1));
        noIndex(x, () -> x.take(1, 1, 0));
        noIndex(x, () -> x.take(1, -1, 0));
        noIndex(x, () -> x.take(10, 0, 0));
    }

    private void desk() {
        Witnesshall x = new Witnesshall();
        is(x.desk(0, 2), "0");
        is(x.desk(0, 36), "0");
        BigInteger[] values = {BigInteger.ONE, BigInteger.TEN, BigInteger.valueOf(-35), BigInteger.valueOf(MIN),
            TWO.pow(130).negate(), TWO.pow(130).subtract(BigInteger.ONE), TWO.pow(60), TWO.pow(60).subtract(BigInteger.ONE),
            new BigInteger("-123456789012345678901234567890")};
        for (BigInteger value : values) {
            lay(x, 4, value);
            for (int radix = 2; radix <= 36; radix++) {
                is(x.desk(4, radix), value.toString(radix));
            }
        }
        noArgument(x, () -> x.desk(0, 1));
        noArgument(x, () -> x.desk(0, 37));
        noArgument(x, () -> x.desk(0, -10));
        noIndex(x, () -> x.desk(10, 1));
        noIndex(x, () -> x.desk(-1, 10));
    }

    private void number() {
        Witnesshall x = new Witnesshall();
        long[][] due = {{0, 0, 0, -1, 0}, {1, 1, 1, 0, 1}, {-1, -1, 0, 0, 1000002}, {12, 1, 4, 2, 12}, {-8, -1, 3, 3, 999995},
            {1000003, 1, 20, 0, 0}, {-1000003, -1, 20, 0, 0}, {1000004, 1, 20, 2, 1}, {-1000004, -1, 20, 2, 1000002},
            {1 << 30, 1, 31, 30, (1 << 30) % 1000003}};
        for (long[] row : due) {
            x.put(2, (int) row[0]);
            for (int what = 0; what < 4; what++) {
                is((long) x.number(2, what), row[what + 1]);
            }
            is(x.number(2, 4), -1);
        }
        BigInteger least = TWO.pow(130).negate();
        lay(x, 2, least);
        is(x.number(2, 1), 130);
        is(x.number(2, 2), 130);
        is(x.number(2, 3), least.mod(BigInteger.valueOf(1000003)).intValue());
        x.decide(9);
        x.decide(7);
        x.put(2, 9);
        is(x.number(2, 4), 0);
        x.put(2, 7);
        is(x.number(2, 4), 1);
        x.withdraw(1);
        is(x.number(2, 4), -1);
        noArgument(x, () -> x.number(0, -1));
        noArgument(x, () -> x.number(0, 5));
        noIndex(x, () -> x.number(10, 5));
        noIndex(x, () -> x.number(-1, 0));
    }

    private void bit() {
        Witnesshall x = new Witnesshall();
        BigInteger[] values = {BigInteger.ZERO, BigInteger.ONE, BigInteger.ONE.negate(), BigInteger.valueOf(-6),
            TWO.pow(130).negate(), TWO.pow(129), new BigInteger("-987654321098765432109876543210"), TWO.pow(60).negate()};
        for (BigInteger value : values) {
            lay(x, 4, value);
            for (int k = 0; k <= 140; k++) {
                is(x.bit(4, k), value.testBit(k));
            }
        }
        noArgument(x, () -> x.bit(0, -1));
        noArgument(x, () -> x.bit(0, 141));
        noIndex(x, () -> x.bit(10, 141));
        noIndex(x, () -> x.bit(-1, 0));
    }

    private void compare() {
        Witnesshall x = new Witnesshall();
        BigInteger[] rising = {TWO.pow(130).negate(), TWO.pow(90).negate(), BigInteger.valueOf(-6), BigInteger.valueOf(-5),
            BigInteger.ZERO, BigInteger.valueOf(5), BigInteger.valueOf(6), TWO.pow(90), TWO.pow(90).add(BigInteger.ONE),
            TWO.pow(129)};
        for (int i = 0; i < rising.length; i++) {
            for (int j = 0; j < rising.length; j++) {
                lay(x, 0, rising[i]);
                lay(x, 1, rising[j]);
                is(x.compare(0, 1), Integer.compare(i, j));
            }
        }
        is(x.compare(3, 3), 0);
        noIndex(x, () -> x.compare(10, 0));
        noIndex(x, () -> x.compare(0, -1));
    }
}
