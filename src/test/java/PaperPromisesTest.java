/** Promises 12 to 28: the sheet, the papers and what changes them. */
public final class PaperPromisesTest extends Tests {
    private static final int NONE = -1;

    public static void main(String[] args) {
        PaperPromisesTest t = new PaperPromisesTest();
        t.promise(12, t::sheet);
        t.promise(12, t::faultsForNo);
        t.promise(12, t::faultsForYes);
        t.promise(13, t::write);
        t.promise(14, t::writeValue);
        t.promise(15, t::strike);
        t.promise(16, t::file);
        t.promise(17, t::seekForNo);
        t.promise(17, t::seekForYes);
        t.promise(17, t::seekLeavesNothing);
        t.promise(17, t::seekWithoutRoom);
        t.promise(18, t::decide);
        t.promise(19, t::next);
        t.promise(20, t::accuse);
        t.promise(21, t::withdraw);
        t.promise(22, t::restore);
        t.promise(23, t::undo);
        t.promise(24, t::base);
        t.promise(25, t::drop);
        t.promise(26, t::begin);
        t.promise(27, t::grow);
        t.promise(27, t::growWithoutRoom);
        t.promise(28, t::knock);
        t.end();
    }

    /** An office with so many papers, of numbers from 2 on. */
    static Witnesshall filled(int papers) {
        Witnesshall x = new Witnesshall();
        for (int n = 2; x.count(0) < papers; n++) {
            x.decide(n);
        }
        return x;
    }

    /** The FAULT of a sheet for the number of place 0. */
    private static int faultOf(Witnesshall x, int kind, int... row) {
        x.sheet(kind, 0);
        for (int value : row) {
            x.writeValue(value);
        }
        return x.fault();
    }

    private void sheet() {
        Witnesshall x = new Witnesshall();
        x.put(0, 15);
        is(x.sheet(0, 0), 1);
        is(x.sheetText(), "15 no divisor");
        x.writeValue(5);
        is(x.fault(), NONE);
        is(x.sheet(7, 0), 1);
        is(x.sheetText(), "15 yes small");
        x.put(0, 7);
        is(x.sheetText(), "15 yes small");
        is(x.sheet(7, 0), NONE);
        is(x.sheet(11, 0), NONE);
        is(x.sheet(4, 0), 1);
        is(x.sheet(12, 0), 0);
        String[] words = {"no divisor", "no power", "no root", "no lucas", "no squares", "no three", "no carmichael",
            "yes small", "yes full", "yes part", "yes plus", "yes squares", "yes three"};
        x.put(0, -15);
        for (int kind = 0; kind < words.length; kind++) {
            is(x.sheet(kind, 0), 0);
            is(x.sheetText(), "-15 " + words[kind]);
        }
        noArgument(x, () -> x.sheet(13, 0));
        noArgument(x, () -> x.sheet(-1, 0));
        noIndex(x, () -> x.sheet(13, 10));
        noIndex(x, () -> x.sheet(0, -1));
    }

    private void faultsForNo() {
        Witnesshall x = new Witnesshall();
        x.put(0, 3);
        is(faultOf(x, 0, 3), 0);
        is(faultOf(x, 1, 2), 0);
        x.put(0, 4);
        is(faultOf(x, 0), 1);
        is(faultOf(x, 0, 2), NONE);
        is(faultOf(x, 1, 2), 0);
        x.put(0, 15);
        is(faultOf(x, 0, 1), 1);
        is(faultOf(x, 0, 0), 1);
        is(faultOf(x, 0, -3), 1);
        is(faultOf(x, 0, 15), 1);
        is(faultOf(x, 0, 4), 1);
        is(faultOf(x, 0, 3, 5), 2);
        is(faultOf(x, 1), 1);
        is(faultOf(x, 1, 1), 1);
        is(faultOf(x, 1, 2), NONE);
        is(faultOf(x, 1, 4), 1);
        is(faultOf(x, 1, 13), NONE);
        is(faultOf(x, 1, 14), 1);
        is(faultOf(x, 1, 2, 2), 2);
        is(faultOf(x, 2), 1);
        is(faultOf(x, 2, 4), NONE);
        is(faultOf(x, 2, 11), NONE);
        is(faultOf(x, 2, 14), 1);
        is(faultOf(x, 2, 1), 1);
        is(faultOf(x, 2, 5), 1);
        is(faultOf(x, 2, -4), 1);
        x.put(0, 9);
        is(faultOf(x, 2, 8), 1);
        is(faultOf(x, 3), 1);
        x.put(0, 21);
        is(faultOf(x, 3, 1), 2);
        is(faultOf(x, 3, 0), 1);
        is(faultOf(x, 3, 101, 1), 1);
        is(faultOf(x, 3, 1, 0), 2);
        is(faultOf(x, 3, 1, 101), 2);
        x.put(0, 209);
        is(faultOf(x, 3, 1, -1), 2);
        x.put(0, 323);
        is(faultOf(x, 3, 3, 1, 1), 2);
        lucasFaults(x);
        x.put(0, 11);
        is(faultOf(x, 4), 0);
        x.put(0, 3);
        is(faultOf(x, 4), 0);
        x.put(0, 7);
        is(faultOf(x, 4), 1);
        is(faultOf(x, 4, 1), 1);
        x.put(0, 15);
        is(faultOf(x, 4), 0);
        x.put(0, 511);
        is(faultOf(x, 4), NONE);
        is(faultOf(x, 4, 7), 1);
        x.put(0, 2047);
        is(faultOf(x, 4), NONE);
        x.make(0, 2, 32, 1);
        is(faultOf(x, 5), NONE);
        is(faultOf(x, 5, 641), 1);
        x.make(0, 2, 129, -1);
        is(faultOf(x, 4), NONE);
        x.make(0, 2, 128, 1);
        is(faultOf(x, 5), NONE);
        for (int exponent : new int[] {0, 1, 3, 6, 12, 24, 48, 96}) {
            x.make(0, 2, exponent, 1);
            is(faultOf(x, 5), 0);
            is(faultOf(x, 12), 0);
        }
        carmichaelFaults(x);
    }

    private void lucasFaults(Witnesshall x) {
        int found = 0;
        for (int n : new int[] {5, 7, 11, 15, 35, 85, 91, 221, 247, 325, 511, 703, 1111}) {
            x.put(0, n);
            for (int p = 1; p <= 3; p++) {
                for (int q = -3; q <= 3; q++) {
                    long due = lucasDue(n, p, q);
                    is((long) faultOf(x, 3, p, q), due);
                    found += due == NONE ? 1 : 0;
                }
            }
        }
        is(found >= 9, true);
        for (int kind : new int[] {3, 10}) {
            for (int q : new int[] {100, -100}) {
                x.put(0, 11);
                is(faultOf(x, kind, 99, 100), 3);
                x.put(0, 7);
                is(faultOf(x, kind, 100, q), 3);
                is(faultOf(x, kind, 101, q), 1);
                is(faultOf(x, kind, 100, q + (q > 0 ? 1 : -1)), 2);
            }
        }
    }

    private static long lucasDue(int n, int p, int q) {
        if (q == 0) {
            return 2;
        }
        long d = Math.floorMod(p * p - 4 * q, n);
        long power = 1;
        for (int i = 0; i < (n - 1) / 2; i++) {
            power = power * d % n;
        }
        if (power != n - 1) {
            return 2;
        }
        return lucasAt(p, q, n + 1, n) == 0 ? 3 : NONE;
    }

    private void carmichaelFaults(Witnesshall x) {
        x.put(0, 561);
        is(faultOf(x, 6), 1);
        is(faultOf(x, 6, 3), 1);
        x.decide(3);
        is(faultOf(x, 6, 3), 2);
        is(faultOf(x, 6, 3, 11), 2);
        x.decide(11);
        x.decide(17);
        x.decide(7);
        x.decide(5);
        is(faultOf(x, 6, 3, 11), 3);
        is(faultOf(x, 6, 3, 11, 17), NONE);
        is(faultOf(x, 6, 3, 17, 11), 3);
        is(faultOf(x, 6, 3, 3, 11), 2);
        is(faultOf(x, 6, 3, 5, 17), 2);
        is(faultOf(x, 6, 11, 17), 3);
        is(faultOf(x, 6, 3, 11, 17, 19), 4);
        is(faultOf(x, 6, 3, 187), 2);
        x.put(0, 15);
        is(faultOf(x, 6, 3, 5), 2);
        x.put(0, 45);
        is(faultOf(x, 6, 3, 5), 3);
        x.put(0, 7);
        is(faultOf(x, 6, 7), 2);
        x.put(0, 560);
        is(faultOf(x, 6, 3), 0);
    }

    private void faultsForYes() {
        Witnesshall x = new Witnesshall();
        for (int n : new int[] {-7, 0, 1, 1000, 1009}) {
            x.put(0, n);
            is(faultOf(x, 7), 0);
        }
        for (int n = 2; n <= 999; n++) {
            x.put(0, n);
            is(faultOf(x, 7), x.sifted(n) ? NONE : 1);
        }
        x.put(0, 7);
        is(faultOf(x, 7, 7), 1);
        fullFaults(x);
        plusFaults(new Witnesshall());
        int[] primes = {3, 5, 7, 13, 17, 19, 31, 61, 89, 107, 127};
        for (int k = 3; k <= 129; k += 2) {
            x.make(0, 2, k, -1);
            boolean isPrime = false;
            for (int prime : primes) {
                isPrime |= prime == k;
            }
            is(faultOf(x, 11), isPrime ? NONE : 1);
            is(faultOf(x, 4), isPrime ? 1 : NONE);
        }
        x.make(0, 2, 4, -1);
        is(faultOf(x, 11), 0);
        x.make(0, 2, 7, -1);
        is(faultOf(x, 11, 7), 1);
        for (int e = 2; e <= 128; e *= 2) {
            x.make(0, 2, e, 1);
            is(faultOf(x, 12), e <= 16 ? NONE : 1);
            is(faultOf(x, 5), e <= 16 ? 1 : NONE);
        }
    }

    private void fullFaults(Witnesshall x) {
        x.put(0, 3);
        is(faultOf(x, 8), 0);
        x.put(0, 11);
        is(faultOf(x, 8), 1);
        is(faultOf(x, 8, 1), 1);
        is(faultOf(x, 8, 10), 1);
        is(faultOf(x, 8, 2), 2);
        is(faultOf(x, 8, 2, 2), 2);
        x.decide(2);
        x.decide(3);
        is(faultOf(x, 8, 2, 2), 3);
        is(faultOf(x, 9, 2, 2), 3);
        x.decide(5);
        is(faultOf(x, 8, 2, 2, 5), NONE);
        is(x.sheetText(), "11 yes full 2 2 5");
        is(faultOf(x, 8, 3, 2, 5), 2);
        is(faultOf(x, 8, 4, 2, 5), 2);
        is(faultOf(x, 8, 10, 2, 5), 1);
        is(faultOf(x, 8, 2, 5, 2), 3);
        is(faultOf(x, 8, 2, 2, 2), 3);
        is(faultOf(x, 8, 2, 3, 5), 2);
        is(faultOf(x, 8, 2, 2, 5, 7), 4);
        is(faultOf(x, 9), 1);
        is(faultOf(x, 9, 2), 2);
        is(faultOf(x, 9, 2, 5), NONE);
        is(faultOf(x, 9, 2, 2, 5), NONE);
        is(faultOf(x, 9, 10, 5), 1);
        x.put(0, 13);
        is(faultOf(x, 8, 2, 2, 3), NONE);
        is(faultOf(x, 9, 2, 2), NONE);
        is(faultOf(x, 9, 5, 2), NONE);
        is(faultOf(x, 9, 5, 3), 2);
        is(faultOf(x, 9, 2, 3), NONE);
        x.put(0, 5);
        is(faultOf(x, 8, 2, 2), NONE);
        is(faultOf(x, 8, 4, 2), 1);
        x.put(0, 15);
        is(faultOf(x, 8, 2, 2), 1);
        is(faultOf(x, 8, 4, 2), 3);
        is(faultOf(x, 9, 4, 2), 2);
        x.put(0, 25);
        is(faultOf(x, 8, 7, 2, 3), 2);
        is(faultOf(x, 9, 7, 2, 3), 2);
        x.put(0, 37);
        is(faultOf(x, 9, 2, 2), 3);
        is(faultOf(x, 9, 2, 3), NONE);
        x.put(0, 73);
        is(faultOf(x, 9, 5, 2), NONE);
        x.put(0, 17);
        is(faultOf(x, 9, 3, 2), NONE);
    }

    private void plusFaults(Witnesshall x) {
        x.put(0, 127);
        is(faultOf(x, 10), 1);
        is(faultOf(x, 10, 0), 1);
        is(faultOf(x, 10, 101), 1);
        is(faultOf(x, 10, 1), 2);
        is(faultOf(x, 10, 1, -3), 2);
        is(faultOf(x, 10, 1, 0), 2);
        is(faultOf(x, 10, 1, -101), 2);
        is(faultOf(x, 10, 1, 101), 2);
        is(faultOf(x, 10, 1, -1), 3);
        is(faultOf(x, 10, 1, -1, 2), 3);
        x.decide(2);
        is(faultOf(x, 10, 1, -1, 2), NONE);
        is(faultOf(x, 10, 1, -1, 2, 2), 4);
        x.decide(3);
        is(faultOf(x, 10, 1, -1, 3), 3);
        is(faultOf(x, 10, 1, -1, 2, 3), 4);
        x.put(0, 5);
        is(faultOf(x, 10, 2, 1, 2), 2);
        is(faultOf(x, 10, 1, 2, 3), 4);
        is(faultOf(x, 10, 1, 2, 2), 4);
        is(faultOf(x, 10, 1, -4, 2), 3);
        is(faultOf(x, 10, 1, -5, 2, 3), 2);
        is(faultOf(x, 10, 3, 3, 2, 3), NONE);
        is(faultOf(x, 10, 3, 3, 3, 2), 4);
        x.put(0, 23);
        is(faultOf(x, 10, 1, -4, 2, 3), NONE);
        is(faultOf(x, 10, 1, -4, 3), 4);
        is(faultOf(x, 10, 1, -4, 2), NONE);
        x.put(0, 4);
        is(faultOf(x, 10, 1, 1), 0);
        for (int n : new int[] {5, 7, 11, 13, 17, 19, 23, 25, 29, 35}) {
            x.put(0, n);
            for (int p = 1; p <= 6; p++) {
                for (int q = -6; q <= 6; q++) {
                    for (int factor = 2; factor <= 3; factor++) {
                        is(faultOf(x, 10, p, q, factor), plusDue(n, p, q, factor));
                    }
                }
            }
        }
    }

    private static long gcd(long a, long b) {
        return b == 0 ? Math.abs(a) : gcd(b, a % b);
    }

    private static long lucasAt(int p, int q, int k, int n) {
        long u = 0;
        long after = 1;
        for (int i = 0; i < k; i++) {
            long then = Math.floorMod(p * after - q * u, (long) n);
            u = after;
            after = then;
        }
        return u;
    }

    private static int plusDue(int n, int p, int q, int factor) {
        if (q == 0 || gcd(n, q * (p * p - 4 * q)) != 1 || lucasAt(p, q, n + 1, n) != 0) {
            return 2;
        }
        if ((n + 1) % factor != 0 || gcd(n, lucasAt(p, q, (n + 1) / factor, n)) != 1) {
            return 3;
        }
        int f = 1;
        while ((n + 1) % (f * factor) == 0) {
            f *= factor;
        }
        return (f - 1) * (f - 1) > n ? NONE : 4;
    }

    private void write() {
        Witnesshall x = new Witnesshall();
        x.put(0, 15);
        x.make(1, 2, 100, 0);
        noState(x, () -> x.write(0));
        noIndex(x, () -> x.write(10));
        noIndex(x, () -> x.write(-1));
        x.sheet(0, 0);
        is(x.write(1), 1);
        x.put(1, -3);
        is(x.write(1), 2);
        is(x.sheetText(), "15 no divisor 1267650600228229401496703205376 -3");
        for (int i = 3; i <= 10; i++) {
            is(x.write(0), i);
        }
        noState(x, () -> x.write(0));
        noIndex(x, () -> x.write(10));
    }

    private void writeValue() {
        Witnesshall x = new Witnesshall();
        noState(x, () -> x.writeValue(0));
        x.sheet(8, 0);
        is(x.writeValue(Integer.MIN_VALUE), 1);
        is(x.writeValue(Integer.MAX_VALUE), 2);
        is(x.writeValue(0), 3);
        is(x.sheetText(), "0 yes full -2147483648 2147483647 0");
        for (int i = 4; i <= 10; i++) {
            is(x.writeValue(i), i);
        }
        noState(x, () -> x.writeValue(1));
    }

    private void strike() {
        Witnesshall x = new Witnesshall();
        noState(x, () -> x.strike());
        x.sheet(8, 0);
        noState(x, () -> x.strike());
        x.writeValue(4);
        x.writeValue(6);
        is(x.strike(), 1);
        is(x.sheetText(), "0 yes full 4");
        is(x.writeValue(7), 2);
        is(x.sheetText(), "0 yes full 4 7");
        is(x.strike(), 1);
        is(x.strike(), 0);
        noState(x, () -> x.strike());
    }

    private void file() {
        Witnesshall x = new Witnesshall();
        noState(x, () -> x.file());
        x.put(0, 15);
        x.sheet(0, 0);
        is(x.file(), -2);
        is(x.sheetText(), "15 no divisor");
        x.writeValue(3);
        is(x.file(), 0);
        is(x.sheetText(), "");
        is(x.paper(0), "15 no divisor 3");
        is(x.count(7), 1);
        noState(x, () -> x.file());
        x.sheet(0, 0);
        x.writeValue(5);
        noState(x, () -> x.file());
        x.strike();
        noState(x, () -> x.file());
        x.withdraw(0);
        x.writeValue(5);
        is(x.file(), 1);
        is(x.ofPaper(1, 2), 2);
        x.put(0, 3);
        x.sheet(0, 0);
        is(x.file(), -1);
        x.put(0, 11);
        x.decide(2);
        x.sheet(8, 0);
        x.writeValue(2);
        x.writeValue(2);
        is(x.file(), -4);
        is(x.count(0), 3);
        Witnesshall full = filled(149);
        full.put(0, 907);
        full.sheet(7, 0);
        is(full.file(), 149);
        full.put(0, 911);
        full.sheet(7, 0);
        noState(full, () -> full.file());
        full.sheet(8, 0);
        noState(full, () -> full.file());
    }

    private static int soughtAt(Witnesshall x, int kind, int n) {
        x.put(0, n);
        return x.seek(kind, 0);
    }

    private static String sought(Witnesshall x, int kind, int n) {
        int paper = soughtAt(x, kind, n);
        return paper < 0 ? "" : x.paper(paper);
    }

    private void seekForNo() {
        Witnesshall x = new Witnesshall();
        is(sought(x, 0, 561), "561 no divisor 3");
        is(sought(x, 0, 999999), "999999 no divisor 3");
        is(sought(x, 0, 994009), "994009 no divisor 997");
        is(sought(x, 0, 4), "4 no divisor 2");
        is(sought(x, 0, 7), "");
        is(sought(x, 0, 3), "");
        is(sought(x, 0, -8), "");
        is(sought(x, 1, 561), "561 no power 3");
        is(sought(x, 1, 341), "341 no power 3");
        is(sought(x, 1, 9), "9 no power 2");
        is(sought(x, 1, 11), "");
        is(sought(x, 1, 294409), "294409 no power 37");
        is(sought(x, 1, 252601), "");
        is(sought(x, 1, 8), "");
        is(sought(x, 2, 561), "561 no root 67");
        is(sought(x, 2, 341), "341 no root 32");
        is(sought(x, 2, 15), "15 no root 4");
        is(sought(x, 2, 9), "");
        is(x.paper(soughtAt(x, 2, 123)), "123 no root 40");
        is(sought(x, 2, 609), "");
        is(sought(x, 3, 561), "");
        is(sought(x, 3, 9), "");
        is(sought(x, 3, 85), "85 no lucas 1 -3");
        is(sought(x, 3, 325), "325 no lucas 1 2");
        is(sought(x, 3, 511), "511 no lucas 2 3");
        is(sought(x, 3, 1111), "1111 no lucas 3 -2");
        is(sought(x, 3, 15), "");
        is(sought(x, 3, 11), "");
        is(sought(x, 3, 175), "");
        is(sought(x, 3, 1687), "");
        is(sought(x, 4, 2047), "2047 no squares");
        is(sought(x, 4, 7), "");
        is(sought(x, 4, 9), "");
        is(sought(x, 5, 17), "");
        is(sought(x, 6, 561), "561 no carmichael 3 11 17");
        is(sought(x, 6, 1105), "1105 no carmichael 5 13 17");
        is(sought(x, 6, 1106), "");
        int papers = x.count(0);
        is(sought(x, 6, 561), "561 no carmichael 3 11 17");
        is(x.count(0), papers);
        x.make(1, 2, 101, -1);
        is(x.seek(1, 1), papers);
        is(x.paper(papers), "2535301200456458802993406410751 no power 3");
        x.make(1, 2, 64, 1);
        is(x.seek(5, 1), papers + 1);
        is(x.seek(5, 1), papers + 1);
        is(x.seek(12, 1), NONE);
        seekBounds(x);
    }

    private void seekBounds(Witnesshall x) {
        x.put(1, 1000000);
        for (int kind : new int[] {0, 3, 6, 7, 8, 9, 10}) {
            noState(x, () -> x.seek(kind, 1));
        }
        for (int kind : new int[] {1, 2, 4, 5, 11, 12}) {
            is(x.seek(kind, 1), NONE);
        }
        noArgument(x, () -> x.seek(13, 1));
        noArgument(x, () -> x.seek(-1, 1));
        noIndex(x, () -> x.seek(13, 10));
        noIndex(x, () -> x.seek(0, -1));
        x.make(2, 2, 61, -1);
        noState(x, () -> x.seek(8, 2));
        is(x.seek(11, 2) >= 0, true);
    }

    private void seekForYes() {
        Witnesshall x = new Witnesshall();
        is(sought(x, 7, 997), "997 yes small");
        is(sought(x, 7, 999), "");
        is(sought(x, 7, 1009), "");
        is(sought(x, 7, 2), "2 yes small");
        is(sought(x, 8, 11), "11 yes full 2 2 5");
        is(x.count(0), 4);
        is(x.paper(2), "5 yes small");
        is(sought(x, 8, 7), "7 yes full 3 2 3");
        is(sought(x, 8, 41), "41 yes full 6 2 5");
        is(sought(x, 8, 9), "");
        is(sought(x, 8, 3), "");
        is(sought(x, 9, 41), "41 yes part 6 2 5");
        is(sought(x, 9, 43), "43 yes part 2 7");
        is(sought(x, 9, 31), "31 yes part 2 5");
        is(sought(x, 9, 21), "");
        is(sought(x, 10, 5), "5 yes plus 1 -3 2 3");
        is(sought(x, 10, 127), "127 yes plus 1 -1 2");
        is(sought(x, 10, 2753), "2753 yes plus 2 6 3 17");
        is(sought(x, 10, 6911), "6911 yes plus 2 -6 2 3");
        is(sought(x, 10, 99839), "99839 yes plus 5 -3 2 3 5 13");
        is(sought(x, 10, 9), "");
        is(sought(x, 11, 127), "127 yes squares");
        is(sought(x, 11, 2047), "");
        is(sought(x, 12, 65537), "65537 yes three");
        x.make(3, 2, 107, -1);
        int paper = x.seek(11, 3);
        is(x.paper(paper), "162259276829213363391578010288127 yes squares");
        x.make(3, 2, 109, -1);
        is(x.seek(11, 3), NONE);
        int entries = x.count(7);
        is(sought(x, 8, 11), "11 yes full 2 2 5");
        is(x.count(7), entries);
        x.withdraw(0);
        x.withdraw(1);
        is(x.ofPaper(3, 2), 1);
        is(sought(x, 8, 11), "11 yes full 2 2 5");
        x.withdraw(3);
        is(sought(x, 8, 11), "11 yes full 2 2 5");
        is(x.ofPaper(3, 2), 0);
        secondRuleSteps();
    }

    /** The greatest FACTORS alone are decided for KIND 9 and 10, and all of them, rising, for KIND 8. */
    private void secondRuleSteps() {
        Witnesshall x = new Witnesshall();
        is(sought(x, 9, 1009), "1009 yes part 2 3 7");
        is(x.count(0), 3);
        is(x.paper(0), "3 yes small");
        is(x.paper(1), "7 yes small");
        is(x.count(7), 1);
        is(sought(x, 8, 1009), "1009 yes full 11 2 3 7");
        is(x.paper(3), "2 yes small");
        is(x.count(0), 5);
        is(sought(x, 10, 1009), "1009 yes plus 1 -4 101");
        is(x.paper(5), "101 yes small");
        is(x.undo(), 5);
        is(x.undo(), 3);
        is(x.undo(), 0);
    }

    private void seekLeavesNothing() {
        Witnesshall x = new Witnesshall();
        x.put(0, 15);
        long before = x.digest();
        is(x.seek(6, 0), NONE);
        is(x.digest(), before);
        x.put(0, 7);
        before = x.digest();
        is(x.seek(6, 0), NONE);
        is(x.digest(), before);
        x.put(0, 9);
        before = x.digest();
        is(x.seek(8, 0), NONE);
        is(x.seek(9, 0), NONE);
        is(x.seek(10, 0), NONE);
        is(x.digest(), before);
        x.put(0, 53759);
        before = x.digest();
        is(x.seek(10, 0), NONE);
        is(x.digest(), before);
        is(x.seek(8, 0) > 0, true);
    }

    private void seekWithoutRoom() {
        Witnesshall x = filled(149);
        x.put(0, 907 * 911);
        noState(x, () -> x.seek(6, 0));
        x.put(0, 907);
        is(x.seek(6, 0), NONE);
        noState(x, () -> x.seek(8, 0));
        is(x.count(0), 149);
        x.put(0, 821);
        is(x.seek(8, 0), 149);
        x.put(0, 23);
        noState(x, () -> x.seek(8, 0));
        is(x.seek(7, 0) >= 0, true);
        noState(x, () -> x.seek(9, 0));
        is(x.seek(1, 0), NONE);
        x.put(0, 25);
        noState(x, () -> x.seek(1, 0));
        is(x.seek(6, 0), NONE);
        x.put(0, 53759);
        is(x.seek(10, 0), NONE);
        x.withdraw(5);
        noState(x, () -> x.seek(10, 0));
        x.put(0, 911);
        noState(x, () -> x.seek(6, 0));
        is(x.count(0), 150);
    }

    private void decide() {
        Witnesshall x = new Witnesshall();
        is(x.decide(2), 0);
        is(x.paper(0), "2 yes small");
        is(x.decide(2), 0);
        is(x.count(7), 1);
        is(x.decide(4), 1);
        is(x.paper(1), "4 no divisor 2");
        is(x.paper(x.decide(999)), "999 no divisor 3");
        is(x.paper(x.decide(997)), "997 yes small");
        is(x.paper(x.decide(1000)), "1000 no divisor 2");
        is(x.paper(x.decide(1001)), "1001 no power 2");
        is(x.paper(x.decide(2047)), "2047 no power 3");
        is(x.paper(x.decide(1729)), "1729 no root 1065");
        is(x.paper(x.decide(999998)), "999998 no divisor 2");
        is(x.paper(x.decide(999999)), "999999 no power 2");
        int papers = x.count(0);
        is(x.decide(1009), papers + 2);
        is(x.paper(papers), "3 yes small");
        is(x.paper(papers + 1), "7 yes small");
        is(x.paper(papers + 2), "1009 yes full 11 2 3 7");
        Witnesshall deep = new Witnesshall();
        is(deep.decide(999983), 5);
        String[] due = {"2 yes small", "79 yes small", "6329 yes full 3 2 7 113", "999983 yes full 5 2 79 6329"};
        is(deep.paper(0), due[0]);
        is(deep.paper(1), due[1]);
        is(deep.paper(4), due[2]);
        is(deep.paper(5), due[3]);
        is(deep.count(7), 1);
        decideAnew(deep);
        noArgument(x, () -> x.decide(1));
        noArgument(x, () -> x.decide(0));
        noArgument(x, () -> x.decide(1000000));
        Witnesshall full = filled(150);
        noState(full, () -> full.decide(907));
        noState(full, () -> full.decide(1009));
        is(full.decide(3), 1);
        Witnesshall almost = filled(149);
        noState(almost, () -> almost.decide(999983));
        is(almost.count(0), 149);
    }

    /** A LOOSE paper is not told till what it hangs on is decided again. */
    private void decideAnew(Witnesshall deep) {
        deep.withdraw(1);
        is(deep.ofPaper(5, 2), 1);
        is(deep.decide(999983), 5);
        is(deep.count(0), 7);
        is(deep.paper(6), "79 yes small");
        is(deep.ofPaper(5, 2), 2);
        Witnesshall two = new Witnesshall();
        two.decide(2);
        two.decide(3);
        two.decide(7);
        two.put(0, 1009);
        is(two.seek(9, 0), 3);
        is(two.seek(8, 0), 4);
        is(two.decide(1009), 3);
        two.withdraw(1);
        is(two.count(3), 2);
        is(two.decide(1009), 4);
    }

    private void next() {
        Witnesshall x = new Witnesshall();
        is(x.next(1), 2);
        is(x.next(2), 3);
        is(x.next(3), 5);
        is(x.count(0), 3);
        is(x.next(7), 11);
        is(x.count(0), 5);
        is(x.paper(3), "9 no divisor 3");
        is(x.count(7), 4);
        is(x.next(8), 11);
        is(x.count(7), 4);
        is(x.next(999900), 999907);
        int papers = x.count(0);
        int yes = x.count(5);
        is(x.next(113), 127);
        is(x.undo(), papers);
        is(x.count(5), yes);
        noArgument(x, () -> x.next(0));
        noArgument(x, () -> x.next(999901));
        noArgument(x, () -> x.next(-1));
        Witnesshall full = filled(145);
        noState(full, () -> full.next(887));
        is(full.count(0), 145);
        is(filled(150).next(2), 3);
    }

    private void accuse() {
        Witnesshall x = new Witnesshall();
        x.put(0, 341);
        is(x.accuse(0, 340), NONE);
        is(x.accuse(0, 2), 0);
        is(x.paper(0), "341 no root 32");
        is(x.accuse(0, 343), 0);
        is(x.accuse(0, 3), 1);
        is(x.paper(1), "341 no power 3");
        is(x.accuse(0, 5), 1);
        is(x.count(7), 2);
        x.withdraw(0);
        is(x.accuse(0, 2), 2);
        x.put(0, 11);
        is(x.accuse(0, 2), NONE);
        x.put(0, 9);
        is(x.accuse(0, 20), 3);
        is(x.paper(3), "9 no power 2");
        x.make(1, 2, 101, -1);
        is(x.accuse(1, 2), NONE);
        is(x.accuse(1, 3), 4);
        x.put(0, 4);
        noState(x, () -> x.accuse(0, 2));
        x.put(0, 3);
        noState(x, () -> x.accuse(0, 2));
        noArgument(x, () -> x.accuse(0, 1));
        noArgument(x, () -> x.accuse(0, 1001));
        noIndex(x, () -> x.accuse(10, 1));
        Witnesshall full = filled(150);
        full.put(0, 25);
        noState(full, () -> full.accuse(0, 2));
        is(full.accuse(0, 7), NONE);
        Witnesshall held = filled(149);
        held.put(0, 25);
        is(held.accuse(0, 2), 149);
        is(held.accuse(0, 3), 149);
    }

    private void withdraw() {
        Witnesshall x = new Witnesshall();
        x.decide(999983);
        is(x.withdraw(5), 0);
        is(x.withdraw(0), 1);
        is(x.ofPaper(0, 2), 0);
        is(x.ofPaper(4, 2), 1);
        is(x.ofPaper(5, 2), 0);
        noState(x, () -> x.withdraw(0));
        noState(x, () -> x.withdraw(5));
        is(x.count(7), 3);
        is(x.undo(), 6);
        is(x.undo(), 6);
        is(x.withdraw(0), 2);
        noIndex(x, () -> x.withdraw(6));
        noIndex(x, () -> x.withdraw(-1));
    }

    private void restore() {
        Witnesshall x = new Witnesshall();
        x.decide(999983);
        noState(x, () -> x.restore(0));
        x.withdraw(0);
        x.withdraw(1);
        is(x.restore(0), 1);
        is(x.ofPaper(4, 2), 2);
        is(x.ofPaper(5, 2), 1);
        is(x.restore(1), 0);
        is(x.ofPaper(5, 2), 2);
        is(x.count(7), 5);
        x.withdraw(0);
        x.decide(2);
        noState(x, () -> x.restore(0));
        x.withdraw(6);
        is(x.restore(0), 0);
        noState(x, () -> x.restore(6));
        noIndex(x, () -> x.restore(7));
        noIndex(x, () -> x.restore(-1));
        x.put(0, 7);
        x.seek(8, 0);
        x.withdraw(0);
        is(x.restore(6), 0);
    }

    private void undo() {
        Witnesshall x = new Witnesshall();
        noState(x, () -> x.undo());
        x.decide(2);
        x.put(0, 7);
        x.decide(7);
        x.base(5);
        x.withdraw(0);
        x.restore(0);
        x.begin(0);
        x.grow(0, false);
        x.sheet(0, 0);
        is(x.count(0), 3);
        is(x.undo(), 2);
        is(x.ofChain(0, 0), 1);
        is(x.undo(), 2);
        is(x.count(6), 0);
        is(x.undo(), 2);
        is(x.ofPaper(0, 2), 0);
        is(x.undo(), 2);
        is(x.ofPaper(0, 2), 2);
        is(x.undo(), 1);
        is(x.undo(), 0);
        noState(x, () -> x.undo());
        is(x.desk(0, 10), "7");
        is(x.sheetText(), "7 no divisor");
        is(x.count(8), 1);
        is(x.decide(3), 0);
        undoLimits();
    }

    private void undoLimits() {
        Witnesshall x = new Witnesshall();
        x.decide(2);
        for (int i = 0; i < 20; i++) {
            x.withdraw(0);
            x.restore(0);
        }
        is(x.count(7), 30);
        for (int i = 0; i < 30; i++) {
            is(x.undo(), 1);
            is(x.ofPaper(0, 2), i % 2 == 0 ? 0 : 2);
        }
        noState(x, () -> x.undo());
        is(x.count(0), 1);
        Witnesshall y = new Witnesshall();
        for (int n = 2; n <= 33; n++) {
            y.decide(n);
        }
        is(y.count(7), 30);
        for (int i = 31; i >= 2; i--) {
            is(y.undo(), i);
        }
        noState(y, () -> y.undo());
        is(y.paper(1), "3 yes small");
    }

    private void base() {
        Witnesshall x = new Witnesshall();
        is(x.base(2), 1);
        is(x.base(1000), 2);
        noState(x, () -> x.base(2));
        noState(x, () -> x.base(1000));
        is(x.base(3), 3);
        is(x.base(5), 4);
        is(x.base(7), 5);
        is(x.base(11), 6);
        noState(x, () -> x.base(13));
        noState(x, () -> x.base(11));
        noArgument(x, () -> x.base(1));
        noArgument(x, () -> x.base(1001));
        is(x.count(7), 0);
    }

    private void drop() {
        Witnesshall x = new Witnesshall();
        noIndex(x, () -> x.drop(0));
        x.base(2);
        x.base(3);
        x.base(5);
        noIndex(x, () -> x.drop(3));
        noIndex(x, () -> x.drop(-1));
        is(x.drop(1), 3);
        noIndex(x, () -> x.drop(2));
        is(x.drop(1), 5);
        is(x.base(3), 2);
        is(x.drop(0), 2);
        is(x.drop(0), 3);
        is(x.count(8), 0);
    }

    private void begin() {
        Witnesshall x = new Witnesshall();
        x.put(0, 7);
        noState(x, () -> x.begin(0));
        x.decide(7);
        is(x.begin(0), 0);
        is(x.link(0, 0), "7");
        x.decide(2);
        x.put(1, 2);
        noState(x, () -> x.begin(1));
        x.decide(9);
        x.put(1, 9);
        noState(x, () -> x.begin(1));
        x.withdraw(0);
        noState(x, () -> x.begin(0));
        x.restore(0);
        for (int i = 1; i < 5; i++) {
            is(x.begin(0), i);
        }
        noState(x, () -> x.begin(0));
        noIndex(x, () -> x.begin(10));
        noIndex(x, () -> x.begin(-1));
        is(x.count(7), 10);
        x.undo();
        is(x.count(6), 4);
        x.decide(3);
        x.put(0, 3);
        is(x.begin(0), 4);
        is(x.link(4, 0), "3");
        is(x.ofChain(4, 0), 1);
    }

    private void grow() {
        Witnesshall x = new Witnesshall();
        noIndex(x, () -> x.grow(0, false));
        x.decide(7);
        x.put(0, 7);
        x.begin(0);
        is(x.grow(0, false), 2);
        is(x.paper(1), "29 yes part 2 7");
        is(x.grow(0, true), 2);
        is(x.link(0, 2), "523");
        is(x.paper(2), "523 yes part 2 29");
        noIndex(x, () -> x.grow(1, false));
        noIndex(x, () -> x.grow(-1, false));
        is(x.count(7), 4);
        x.begin(0);
        is(x.grow(1, false), 2);
        is(x.count(0), 3);
        is(x.count(7), 6);
        x.withdraw(1);
        noState(x, () -> x.grow(1, false));
        x.put(2, 29);
        is(x.seek(7, 2), 3);
        is(x.grow(0, false) > 0, true);
        x.undo();
        is(x.undo(), 3);
        is(x.undo(), 3);
        is(x.ofPaper(1, 2), 2);
        for (int i = 3; i < 8; i++) {
            is(x.grow(0, false) > 0, true);
        }
        noState(x, () -> x.grow(0, false));
        is(x.ofChain(0, 0), 8);
        growNowhere();
    }

    /** Too long, or without a step: nothing is changed. */
    private void growNowhere() {
        Witnesshall x = new Witnesshall();
        x.make(0, 2, 127, -1);
        x.seek(11, 0);
        x.begin(0);
        is(x.grow(0, true), NONE);
        long before = x.digest();
        is(x.grow(0, false), NONE);
        is(x.digest(), before);
        Witnesshall y = new Witnesshall();
        y.decide(999983);
        y.put(0, 999983);
        y.begin(0);
        is(y.grow(0, true), 8);
        before = y.digest();
        is(y.grow(0, true), NONE);
        is(y.digest(), before);
        is(y.grow(0, false), 9);
        is(y.ofChain(0, 2), 44);
        Witnesshall z = new Witnesshall();
        z.decide(3);
        z.put(0, 3);
        z.begin(0);
        is(z.grow(0, true), 1);
        is(z.link(0, 1), "7");
        growFar();
    }

    private static Witnesshall begun(int prime) {
        Witnesshall x = new Witnesshall();
        x.decide(prime);
        x.put(0, prime);
        x.begin(0);
        return x;
    }

    /** The last step that is tried, and the longest number. */
    private void growFar() {
        is(begun(729271).grow(0, false), 60);
        is(begun(374909).grow(0, false), NONE);
        Witnesshall x = begun(131101);
        is(x.grow(0, true), 5);
        is(x.grow(0, true), 54);
        is(x.grow(0, true), 9);
        is(x.ofChain(0, 2), 130);
        is(x.grow(0, false), NONE);
        Witnesshall y = begun(143053);
        is(y.grow(0, true), 8);
        is(y.grow(0, true), 16);
        is(y.grow(0, true), NONE);
        is(y.ofChain(0, 2), 66);
    }

    private void growWithoutRoom() {
        Witnesshall x = filled(148);
        x.put(0, 7);
        x.begin(0);
        is(x.grow(0, false), 2);
        x.begin(0);
        x.decide(907);
        is(x.count(0), 150);
        is(x.grow(1, false), 2);
        is(x.count(0), 150);
        noState(x, () -> x.grow(1, false));
        x.put(0, 841);
        is(x.ofChain(1, 0), 2);
    }

    private void knock() {
        Witnesshall x = new Witnesshall();
        is(x.knock(), 1);
        is(x.knock(), 2);
        noState(x, () -> x.undo());
        noIndex(x, () -> x.put(10, 0));
        is(x.knock(), 3);
        is(x.count(9), 3);
        is(x.count(7), 0);
    }
}
