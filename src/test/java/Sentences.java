import java.math.BigInteger;
import java.util.ArrayList;
import java.util.List;

/** Tests of single sentences of the document, each told by its words; words that do not stand there are told as wrong. */
abstract class Sentences extends Tests {
    static final int NONE = -1;
    static final int NOTHING = -9;
    static final int MIN = Integer.MIN_VALUE;
    static final int MAX = Integer.MAX_VALUE;
    static final BigInteger ONE = BigInteger.ONE;
    static final BigInteger TWO = BigInteger.TWO;
    static final int[] NO_PLACES = {-1, 10, MIN, MAX};

    private final Document document;
    private final String only;
    private final List<String> names = new ArrayList<>();

    /** With a text in only, just the tests are run whose words hold it. */
    Sentences(Document document, String only) {
        this.document = document;
        this.only = only;
    }

    abstract void all();

    List<String> names() {
        return names;
    }

    void sentence(String section, String words, Runnable test) {
        String name = section + ": " + words;
        names.add(name);
        if (!name.contains(only)) {
            return;
        }
        test(section + ", \"" + words + "\"", () -> {
            is(document.name(section, words), true);
            test.run();
        });
    }

    // ---- short ways to an office in some state

    static Witnesshall office() {
        return new Witnesshall();
    }

    /** An office where these numbers are decided, in that order. */
    static Witnesshall decided(int... numbers) {
        Witnesshall x = new Witnesshall();
        for (int n : numbers) {
            x.decide(n);
        }
        return x;
    }

    /** An office with so many papers: a paper each of the numbers from 2 on. */
    static Witnesshall filled(int papers) {
        Witnesshall x = new Witnesshall();
        for (int n = 2; n < papers + 2; n++) {
            x.decide(n);
        }
        return x;
    }

    /** An office with a chain that begins with a prime. */
    static Witnesshall begun(int prime) {
        Witnesshall x = decided(prime);
        x.put(0, prime);
        x.begin(0);
        return x;
    }

    /** Puts any number that is WITHIN on a place, from its bits; place 9 is written over. */
    static void lay(Witnesshall x, int place, BigInteger value) {
        x.put(place, 0);
        BigInteger left = value.abs();
        for (int at = 120; at >= 0; at -= 24) {
            x.shift(place, place, 24);
            x.put(9, left.shiftRight(at).intValue() & 0xffffff);
            x.work(place, value.signum() < 0 ? 1 : 0, place, 9);
        }
        x.put(9, 0);
    }

    static BigInteger at(Witnesshall x, int place) {
        return new BigInteger(x.desk(place, 10));
    }

    static BigInteger big(long value) {
        return BigInteger.valueOf(value);
    }

    static BigInteger two(int exponent) {
        return TWO.pow(exponent);
    }

    /** LENGTH, as the document words it. */
    static int length(BigInteger x) {
        int k = 0;
        while (x.compareTo(two(k)) >= 0 || x.compareTo(two(k).negate()) < 0) {
            k++;
        }
        return k;
    }

    /** Lays a sheet for n on the desk (with place 0) and writes its row; tells its FAULT. */
    static int faultOf(Witnesshall x, int kind, long n, int... row) {
        lay(x, 0, big(n));
        x.sheet(kind, 0);
        for (int value : row) {
            x.writeValue(value);
        }
        return x.fault();
    }

    static int filed(Witnesshall x, int kind, long n, int... row) {
        faultOf(x, kind, n, row);
        return x.file();
    }

    static int sought(Witnesshall x, int kind, int n) {
        x.put(0, n);
        return x.seek(kind, 0);
    }

    /** The text of the paper that is sought; "" if there is none. */
    static String found(Witnesshall x, int kind, int n) {
        int paper = sought(x, kind, n);
        return paper < 0 ? "" : x.paper(paper);
    }

    static int verdict(Witnesshall x, int n) {
        x.put(8, n);
        return x.number(8, 4);
    }
}
