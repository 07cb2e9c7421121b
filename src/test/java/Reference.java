import java.math.BigInteger;
import java.util.ArrayList;
import java.util.HashMap;
import java.util.List;
import java.util.Map;
import java.util.TreeSet;

/**
 * The document once more, word by word and with the library's numbers, without regard to speed or room: what the
 * class answers is held against this.
 */
final class Reference {
    static final int NONE = -1;
    private static final String[] NAMES = {"divisor", "power", "root", "lucas", "squares", "three", "carmichael",
        "small", "full", "part", "plus", "squares", "three"};
    private static final BigInteger ZERO = BigInteger.ZERO;
    private static final BigInteger ONE = BigInteger.ONE;
    private static final BigInteger TWO = BigInteger.TWO;

    private static final class Sheet {
        final int kind;
        final BigInteger n;
        final List<BigInteger> row = new ArrayList<>();
        boolean held = true;

        Sheet(int kind, BigInteger n) {
            this.kind = kind;
            this.n = n;
        }

        Sheet copy() {
            Sheet copy = new Sheet(kind, n);
            copy.row.addAll(row);
            copy.held = held;
            return copy;
        }

        boolean yes() {
            return kind >= 7;
        }

        List<BigInteger> hangsOn() {
            int from = kind == 6 ? 0 : kind == 8 || kind == 9 ? 1 : kind == 10 ? 2 : row.size();
            return row.subList(Math.min(from, row.size()), row.size());
        }

        String text() {
            StringBuilder text = new StringBuilder(n + (yes() ? " yes " : " no ") + NAMES[kind]);
            for (BigInteger value : row) {
                text.append(' ').append(value);
            }
            return text.toString();
        }
    }

    private static final class Snapshot {
        final List<Sheet> papers = new ArrayList<>();
        final List<List<BigInteger>> chains = new ArrayList<>();
    }

    private static final class NoRoom extends RuntimeException {
        private static final long serialVersionUID = 1;
    }

    private final BigInteger[] desk = new BigInteger[10];
    private Sheet sheet;
    private List<Sheet> papers = new ArrayList<>();
    private List<List<BigInteger>> chains = new ArrayList<>();
    private final List<Integer> bases = new ArrayList<>();
    private final List<Snapshot> entries = new ArrayList<>();
    private int refused;
    private Map<BigInteger, Boolean> yesMemo = new HashMap<>();
    private BigInteger finding;

    Reference() {
        for (int i = 0; i < 10; i++) {
            desk[i] = ZERO;
        }
    }

    // ---- words of the description

    private static BigInteger big(long value) {
        return BigInteger.valueOf(value);
    }

    static int length(BigInteger x) {
        for (int k = 0;; k++) {
            BigInteger two = TWO.pow(k);
            if (x.compareTo(two) < 0 && x.compareTo(two.negate()) >= 0) {
                return k;
            }
        }
    }

    private static boolean fit(BigInteger n) {
        return n.testBit(0) && n.compareTo(big(5)) >= 0;
    }

    static boolean isSifted(int n) {
        for (int d = 2; d * d <= n; d++) {
            if (n % d == 0) {
                return false;
            }
        }
        return n >= 2;
    }

    private static List<Integer> factors(int x) {
        List<Integer> found = new ArrayList<>();
        int rest = x;
        for (int d = 2; d <= rest; d++) {
            if ((long) d * d > rest) {
                d = rest;
            }
            if (rest % d == 0) {
                found.add(d);
                while (rest % d == 0) {
                    rest /= d;
                }
            }
        }
        return found;
    }

    private static BigInteger lucasRow(int p, int q, BigInteger k, BigInteger m) {
        // the powers of the step (U(k + 1), U(k)) -> (P * U(k + 1) - Q * U(k), U(k + 1))
        BigInteger[] power = {ONE, ZERO, ZERO, ONE};
        BigInteger[] step = {big(p), big(-q), ONE, ZERO};
        for (int i = k.bitLength() - 1; i >= 0; i--) {
            power = product(power, power, m);
            if (k.testBit(i)) {
                power = product(power, step, m);
            }
        }
        return power[2].mod(m);
    }

    private static BigInteger[] product(BigInteger[] a, BigInteger[] b, BigInteger m) {
        return new BigInteger[] {
            a[0].multiply(b[0]).add(a[1].multiply(b[2])).mod(m), a[0].multiply(b[1]).add(a[1].multiply(b[3])).mod(m),
            a[2].multiply(b[0]).add(a[3].multiply(b[2])).mod(m), a[2].multiply(b[1]).add(a[3].multiply(b[3])).mod(m)};
    }

    /** 0 PASSED, 1 POWER, 2 ROOT. */
    private int roundSays(BigInteger n, BigInteger a) {
        BigInteger b = a.mod(n);
        BigInteger less = n.subtract(ONE);
        int s = less.getLowestSetBit();
        BigInteger[] x = new BigInteger[s + 1];
        x[0] = b.modPow(less.shiftRight(s), n);
        for (int i = 0; i < s; i++) {
            x[i + 1] = x[i].multiply(x[i]).mod(n);
        }
        boolean passed = b.signum() == 0 || b.equals(ONE) || b.equals(less) || x[0].equals(ONE);
        for (int i = 0; i < s; i++) {
            passed |= x[i].equals(less);
        }
        if (passed) {
            return 0;
        }
        if (!x[s].equals(ONE)) {
            finding = b;
            return 1;
        }
        for (int i = 0; i <= s; i++) {
            if (!x[i].equals(ONE)) {
                finding = x[i];
            }
        }
        return 2;
    }

    private boolean isYes(BigInteger n) {
        Boolean known = yesMemo.get(n);
        if (known != null) {
            return known;
        }
        boolean found = false;
        for (Sheet paper : papers) {
            found |= paper.yes() && paper.n.equals(n) && trusted(paper);
        }
        yesMemo.put(n, found);
        return found;
    }

    private boolean trusted(Sheet paper) {
        if (!paper.held) {
            return false;
        }
        for (BigInteger q : paper.hangsOn()) {
            if (!isYes(q)) {
                return false;
            }
        }
        return true;
    }

    private boolean isNo(BigInteger n) {
        for (Sheet paper : papers) {
            if (!paper.yes() && paper.n.equals(n) && trusted(paper)) {
                return true;
            }
        }
        return false;
    }

    private int verdict(BigInteger n) {
        return isYes(n) ? 1 : isNo(n) ? 0 : NONE;
    }

    private Sheet first(BigInteger n) {
        for (Sheet paper : papers) {
            if (paper.yes() && paper.n.equals(n) && trusted(paper)) {
                return paper;
            }
        }
        throw new AssertionError("no FIRST of " + n);
    }

    private TreeSet<BigInteger> underOf(Sheet paper) {
        TreeSet<BigInteger> found = new TreeSet<>();
        if (trusted(paper)) {
            for (BigInteger q : paper.hangsOn()) {
                found.add(q);
                found.addAll(underOf(first(q)));
            }
        }
        return found;
    }

    private int depth(Sheet paper) {
        if (!trusted(paper)) {
            return NONE;
        }
        int depth = 0;
        for (BigInteger q : paper.hangsOn()) {
            depth = Math.max(depth, 1 + depth(first(q)));
        }
        return depth;
    }

    private static boolean in(BigInteger x, BigInteger from, BigInteger to) {
        return x.compareTo(from) >= 0 && x.compareTo(to) <= 0;
    }

    private static boolean divides(BigInteger d, BigInteger x) {
        return d.signum() == 0 ? x.signum() == 0 : x.mod(d.abs()).signum() == 0;
    }

    private boolean zeroSpot(int kind, BigInteger n) {
        switch (kind) {
            case 0:
                return n.compareTo(big(4)) >= 0;
            case 4:
            case 11:
                for (int k = 3; k < 140; k += 2) {
                    if (n.equals(TWO.pow(k).subtract(ONE))) {
                        return true;
                    }
                }
                return false;
            case 5:
            case 12:
                for (int e = 2; e < 140; e *= 2) {
                    if (n.equals(TWO.pow(e).add(ONE))) {
                        return true;
                    }
                }
                return false;
            case 7:
                return in(n, TWO, big(999));
            default:
                return fit(n);
        }
    }

    private boolean holds(Sheet s, BigInteger before, BigInteger q) {
        return (before == null || q.compareTo(before) > 0) && isYes(q);
    }

    private boolean spot(Sheet s, int k) {
        BigInteger n = s.n;
        BigInteger less = n.subtract(ONE);
        BigInteger v = s.row.get(k - 1);
        BigInteger back = k >= 2 ? s.row.get(k - 2) : null;
        BigInteger last = n.subtract(TWO);
        int p = k == 2 ? back.intValue() : 0;
        switch (s.kind) {
            case 0:
                return k == 1 && in(v, TWO, less) && divides(v, n);
            case 1:
                return k == 1 && in(v, TWO, last) && !v.modPow(less, n).equals(ONE);
            case 2:
                return k == 1 && in(v, TWO, last) && v.multiply(v).mod(n).equals(ONE);
            case 3:
                if (k == 1) {
                    return in(v, ONE, big(100));
                }
                if (k > 2 || !in(v, big(-100), big(100)) || v.signum() == 0) {
                    return false;
                }
                return big(p * p - 4 * v.intValue()).modPow(less.shiftRight(1), n).equals(less);
            case 6:
                return holds(s, back, v) && divides(v, n) && divides(v.subtract(ONE), less);
            case 8:
            case 9:
                if (k == 1) {
                    return in(v, TWO, last) && v.modPow(less, n).equals(ONE);
                }
                if (!holds(s, k == 2 ? null : back, v) || !divides(v, less)) {
                    return false;
                }
                BigInteger power = s.row.get(0).modPow(less.divide(v), n);
                return s.kind == 8 ? !power.equals(ONE) : n.gcd(power.subtract(ONE)).equals(ONE);
            case 10:
                if (k == 1) {
                    return in(v, ONE, big(100));
                }
                BigInteger more = n.add(ONE);
                if (k == 2) {
                    return in(v, big(-100), big(100)) && v.signum() != 0
                        && n.gcd(v.multiply(big(p * p).subtract(big(4).multiply(v)))).equals(ONE)
                        && lucasRow(p, v.intValue(), more, n).signum() == 0;
                }
                return holds(s, k == 3 ? null : back, v) && divides(v, more)
                    && n.gcd(lucasRow(s.row.get(0).intValue(), s.row.get(1).intValue(), more.divide(v), n)).equals(ONE);
            default:
                return false;
        }
    }

    private static BigInteger greatestPower(BigInteger q, BigInteger x) {
        BigInteger power = ONE;
        while (divides(power.multiply(q), x)) {
            power = power.multiply(q);
        }
        return power;
    }

    private boolean end(Sheet s) {
        BigInteger n = s.n;
        BigInteger less = n.subtract(ONE);
        BigInteger f = ONE;
        switch (s.kind) {
            case 0:
            case 1:
            case 2:
                return s.row.size() == 1;
            case 3:
                return s.row.size() == 2
                    && lucasRow(s.row.get(0).intValue(), s.row.get(1).intValue(), n.add(ONE), n).signum() != 0;
            case 4:
            case 11:
                BigInteger x = big(4);
                for (int i = 0; i < n.bitLength() - 2; i++) {
                    x = x.multiply(x).subtract(TWO).mod(n);
                }
                return (x.signum() == 0) == (s.kind == 11);
            case 5:
            case 12:
                return big(3).modPow(less.shiftRight(1), n).equals(less) == (s.kind == 12);
            case 6:
                for (BigInteger q : s.row) {
                    f = f.multiply(q);
                }
                return s.row.size() >= 2 && f.equals(n);
            case 7:
                return isSifted(n.intValue());
            default:
                BigInteger whole = s.kind == 10 ? n.add(ONE) : less;
                for (BigInteger q : s.hangsOn()) {
                    f = f.multiply(greatestPower(q, whole));
                }
                if (s.kind == 8) {
                    return f.equals(whole);
                }
                return f.add(s.kind == 9 ? ONE : ONE.negate()).pow(2).compareTo(n) > 0;
        }
    }

    private int faultOf(Sheet s) {
        if (!zeroSpot(s.kind, s.n)) {
            return 0;
        }
        for (int k = 1; k <= s.row.size(); k++) {
            if (!spot(s, k)) {
                return k;
            }
        }
        return end(s) ? NONE : s.row.size() + 1;
    }

    // ---- taking and undoing

    private Snapshot snapshot() {
        Snapshot now = new Snapshot();
        for (Sheet paper : papers) {
            now.papers.add(paper.copy());
        }
        for (List<BigInteger> chain : chains) {
            now.chains.add(new ArrayList<>(chain));
        }
        return now;
    }

    private void goBack(Snapshot then) {
        papers = then.papers;
        chains = then.chains;
        yesMemo.clear();
    }

    private void enter(Snapshot before) {
        entries.add(before);
        if (entries.size() > 30) {
            entries.remove(0);
        }
    }

    private int takePaper(Sheet s) {
        if (papers.size() == 150) {
            throw new NoRoom();
        }
        Sheet paper = s.copy();
        paper.held = true;
        papers.add(paper);
        yesMemo.clear();
        return papers.size() - 1;
    }

    private int heldOf(int kind, BigInteger n) {
        for (int i = 0; i < papers.size(); i++) {
            if (papers.get(i).held && papers.get(i).kind == kind && papers.get(i).n.equals(n)) {
                return i;
            }
        }
        return NONE;
    }

    private int seekOf(int kind, BigInteger n) {
        if (!zeroSpot(kind, n)) {
            return NONE;
        }
        int held = heldOf(kind, n);
        if (held != NONE) {
            return held;
        }
        Snapshot before = snapshot();
        Sheet written = byRule(kind, n);
        if (written == null) {
            goBack(before);
            return NONE;
        }
        return takePaper(written);
    }

    private Sheet faultless(int kind, BigInteger n, long... row) {
        Sheet s = new Sheet(kind, n);
        for (long value : row) {
            s.row.add(big(value));
        }
        return faultOf(s) == NONE ? s : null;
    }

    private Sheet byRule(int kind, BigInteger n) {
        switch (kind) {
            case 0:
                for (int d = 2;; d++) {
                    if (n.intValue() % d == 0) {
                        return faultless(0, n, d);
                    }
                }
            case 1:
                for (int a = 2; a <= 40; a++) {
                    if (faultless(1, n, a) != null) {
                        return faultless(1, n, a);
                    }
                }
                return null;
            case 2:
                for (int a = 2; a <= 40; a++) {
                    if (roundSays(n, big(a)) == 2) {
                        Sheet s = new Sheet(2, n);
                        s.row.add(finding);
                        return faultOf(s) == NONE ? s : null;
                    }
                }
                return null;
            case 3:
                for (int p = 1; p <= 3; p++) {
                    for (int q = -3; q <= 3; q++) {
                        if (faultless(3, n, p, q) != null) {
                            return faultless(3, n, p, q);
                        }
                    }
                }
                return null;
            case 6:
            case 8:
            case 9:
            case 10:
                return byFactors(kind, n);
            default:
                return faultless(kind, n);
        }
    }

    private boolean isContent(int kind, BigInteger n, BigInteger whole, List<Integer> chosen) {
        BigInteger f = ONE;
        for (int q : chosen) {
            f = f.multiply(greatestPower(big(q), whole));
        }
        return f.add(kind == 9 ? ONE : ONE.negate()).pow(2).compareTo(n) > 0;
    }

    private Sheet byFactors(int kind, BigInteger n) {
        int value = n.intValue();
        if (kind != 6 && !isSifted(value)) {
            return null;
        }
        int whole = kind == 6 ? value : kind == 10 ? value + 1 : value - 1;
        List<Integer> chosen = factors(whole);
        if (kind == 9 || kind == 10) {
            for (int many = 0; many <= chosen.size(); many++) {
                List<Integer> greatest = chosen.subList(chosen.size() - many, chosen.size());
                if (isContent(kind, n, big(whole), greatest)) {
                    chosen = greatest;
                    break;
                }
            }
        }
        for (int q : chosen) {
            decideOf(q);
        }
        Sheet s = new Sheet(kind, n);
        for (int q : chosen) {
            s.row.add(big(q));
        }
        if (kind == 6) {
            return faultOf(s) == NONE ? s : null;
        }
        if (kind != 10) {
            s.row.add(0, ZERO);
            for (int a = 2; a <= 100; a++) {
                s.row.set(0, big(a));
                if (faultOf(s) == NONE) {
                    return s;
                }
            }
            return null;
        }
        s.row.add(0, ZERO);
        s.row.add(0, ZERO);
        for (int p = 1; p <= 6; p++) {
            for (int q = -6; q <= 6; q++) {
                s.row.set(0, big(p));
                s.row.set(1, big(q));
                if (faultOf(s) == NONE) {
                    return s;
                }
            }
        }
        return null;
    }

    private int decideOf(int n) {
        BigInteger number = big(n);
        for (int i = 0; i < papers.size(); i++) {
            if (papers.get(i).n.equals(number) && trusted(papers.get(i))) {
                return i;
            }
        }
        if (n <= 999) {
            return seekOf(isSifted(n) ? 7 : 0, number);
        }
        if (n % 2 == 0) {
            return seekOf(0, number);
        }
        for (int base = 2; base <= 3; base++) {
            int says = roundSays(number, big(base));
            if (says != 0) {
                Sheet s = new Sheet(says, number);
                s.row.add(finding);
                return takePaper(s);
            }
        }
        for (int q : factors(n - 1)) {
            decideOf(q);
        }
        return seekOf(8, number);
    }

    // ---- the face

    private static void index(boolean there) {
        if (!there) {
            throw new IndexOutOfBoundsException();
        }
    }

    private static void place(int place) {
        index(place >= 0 && place < 10);
    }

    private static void argument(boolean inBounds) {
        if (!inBounds) {
            throw new IllegalArgumentException();
        }
    }

    private static void state(boolean so) {
        if (!so) {
            throw new IllegalStateException();
        }
    }

    private int lay(int place, BigInteger value) {
        state(length(value) <= 130);
        desk[place] = value;
        return length(value);
    }

    int put(int place, int value) {
        place(place);
        return lay(place, big(value));
    }

    int make(int place, int base, int exponent, int add) {
        place(place);
        argument(base >= 2 && base <= 1000);
        argument(exponent >= 0 && exponent <= 129);
        argument(add >= -1000 && add <= 1000);
        return lay(place, big(base).pow(exponent).add(big(add)));
    }

    int work(int place, int what, int a, int b) {
        place(place);
        place(a);
        place(b);
        argument(what >= 0 && what <= 6);
        BigInteger x = desk[a];
        BigInteger y = desk[b];
        switch (what) {
            case 0:
                return lay(place, x.add(y));
            case 1:
                return lay(place, x.subtract(y));
            case 2:
                return lay(place, x.multiply(y));
            case 3:
                return y.signum() == 0 ? -9 : lay(place, x.divide(y));
            case 4:
                return y.signum() == 0 ? -9 : lay(place, x.subtract(y.multiply(x.divide(y))));
            case 5:
                return y.signum() <= 0 ? -9 : lay(place, x.mod(y));
            default:
                return lay(place, x.gcd(y));
        }
    }

    int root(int place, int a) {
        place(place);
        place(a);
        return desk[a].signum() < 0 ? -9 : lay(place, desk[a].sqrt());
    }

    int power(int place, int a, int e, int m) {
        place(place);
        place(a);
        place(e);
        place(m);
        state(desk[a].signum() != 0 || desk[e].signum() != 0);
        if (desk[m].signum() <= 0) {
            return -9;
        }
        if (desk[e].signum() < 0 && !desk[a].gcd(desk[m]).equals(ONE)) {
            return -9;
        }
        return lay(place, desk[a].modPow(desk[e], desk[m]));
    }

    int inverse(int place, int a, int m) {
        place(place);
        place(a);
        place(m);
        if (desk[m].signum() <= 0 || !desk[a].gcd(desk[m]).equals(ONE)) {
            return -9;
        }
        return lay(place, desk[a].modInverse(desk[m]));
    }

    int shift(int place, int a, int by) {
        place(place);
        place(a);
        argument(by >= -140 && by <= 140);
        return lay(place, desk[a].shiftLeft(by));
    }

    int lucas(int place, int p, int q, int k, int m) {
        place(place);
        place(k);
        place(m);
        argument(p >= 1 && p <= 100);
        argument(q >= -100 && q <= 100 && q != 0);
        state(desk[k].signum() >= 0);
        return desk[m].signum() <= 0 ? -9 : lay(place, lucasRow(p, q, desk[k], desk[m]));
    }

    private void paperIndex(int paper) {
        index(paper >= 0 && paper < papers.size());
    }

    private void spotIndex(int paper, int spot) {
        paperIndex(paper);
        index(spot >= 0 && spot <= papers.get(paper).row.size());
    }

    private void chainIndex(int chain) {
        index(chain >= 0 && chain < chains.size());
    }

    private void linkIndex(int chain, int k) {
        chainIndex(chain);
        index(k >= 0 && k < chains.get(chain).size());
    }

    int fetch(int place, int paper, int spot) {
        place(place);
        spotIndex(paper, spot);
        return lay(place, spot == 0 ? papers.get(paper).n : papers.get(paper).row.get(spot - 1));
    }

    int take(int place, int chain, int k) {
        place(place);
        linkIndex(chain, k);
        return lay(place, chains.get(chain).get(k));
    }

    int sheet(int kind, int place) {
        place(place);
        argument(kind >= 0 && kind <= 12);
        sheet = new Sheet(kind, desk[place]);
        return faultOf(sheet);
    }

    int write(int place) {
        place(place);
        state(sheet != null && sheet.row.size() < 10);
        sheet.row.add(desk[place]);
        return sheet.row.size();
    }

    int writeValue(int value) {
        state(sheet != null && sheet.row.size() < 10);
        sheet.row.add(big(value));
        return sheet.row.size();
    }

    int strike() {
        state(sheet != null && !sheet.row.isEmpty());
        sheet.row.remove(sheet.row.size() - 1);
        return sheet.row.size();
    }

    int file() {
        state(sheet != null);
        state(heldOf(sheet.kind, sheet.n) == NONE);
        state(papers.size() < 150);
        int found = faultOf(sheet);
        if (found != NONE) {
            return -1 - found;
        }
        enter(snapshot());
        int paper = takePaper(sheet);
        sheet = null;
        return paper;
    }

    int seek(int kind, int place) {
        place(place);
        argument(kind >= 0 && kind <= 12);
        boolean bounded = kind == 0 || kind == 3 || kind >= 6 && kind <= 10;
        state(!bounded || desk[place].compareTo(big(999999)) <= 0);
        Snapshot before = snapshot();
        try {
            int told = seekOf(kind, desk[place]);
            close(before);
            return told;
        } catch (NoRoom e) {
            goBack(before);
            throw new IllegalStateException();
        }
    }

    private void close(Snapshot before) {
        if (papers.size() > before.papers.size()) {
            enter(before);
        }
    }

    int decide(int value) {
        argument(value >= 2 && value <= 999999);
        Snapshot before = snapshot();
        try {
            int told = decideOf(value);
            close(before);
            return told;
        } catch (NoRoom e) {
            goBack(before);
            throw new IllegalStateException();
        }
    }

    int next(int value) {
        argument(value >= 1 && value <= 999900);
        Snapshot before = snapshot();
        try {
            int n = value + 1;
            for (;; n++) {
                if (n == 2 || n % 2 == 1) {
                    decideOf(n);
                    if (isYes(big(n))) {
                        break;
                    }
                }
            }
            close(before);
            return n;
        } catch (NoRoom e) {
            goBack(before);
            throw new IllegalStateException();
        }
    }

    int accuse(int place, int base) {
        place(place);
        argument(base >= 2 && base <= 1000);
        state(fit(desk[place]));
        int says = roundSays(desk[place], big(base));
        if (says == 0) {
            return NONE;
        }
        if (heldOf(says, desk[place]) != NONE) {
            return heldOf(says, desk[place]);
        }
        state(papers.size() < 150);
        Sheet s = new Sheet(says, desk[place]);
        s.row.add(finding);
        enter(snapshot());
        return takePaper(s);
    }

    int withdraw(int paper) {
        paperIndex(paper);
        state(papers.get(paper).held);
        enter(snapshot());
        papers.get(paper).held = false;
        yesMemo.clear();
        return count(3);
    }

    int restore(int paper) {
        paperIndex(paper);
        state(!papers.get(paper).held);
        state(heldOf(papers.get(paper).kind, papers.get(paper).n) == NONE);
        enter(snapshot());
        papers.get(paper).held = true;
        yesMemo.clear();
        return count(3);
    }

    int undo() {
        state(!entries.isEmpty());
        goBack(entries.remove(entries.size() - 1));
        return papers.size();
    }

    int base(int base) {
        argument(base >= 2 && base <= 1000);
        state(bases.size() < 6 && !bases.contains(base));
        bases.add(base);
        return bases.size();
    }

    int drop(int which) {
        index(which >= 0 && which < bases.size());
        return bases.remove(which);
    }

    int begin(int place) {
        place(place);
        state(chains.size() < 5);
        state(desk[place].testBit(0));
        state(isYes(desk[place]));
        enter(snapshot());
        List<BigInteger> chain = new ArrayList<>();
        chain.add(desk[place]);
        chains.add(chain);
        return chains.size() - 1;
    }

    int grow(int chain, boolean isFast) {
        chainIndex(chain);
        List<BigInteger> grown = chains.get(chain);
        state(grown.size() < 8);
        BigInteger p = grown.get(grown.size() - 1);
        state(isYes(p));
        BigInteger h = isFast ? p.divide(big(4)) : ZERO;
        for (int k = 1; k <= 60; k++) {
            BigInteger n = h.add(big(k)).multiply(TWO).multiply(p).add(ONE);
            Sheet s = new Sheet(9, n);
            s.row.add(TWO);
            s.row.add(p);
            if (length(n) <= 130 && faultOf(s) == NONE) {
                boolean isTaken = heldOf(9, n) == NONE;
                state(!isTaken || papers.size() < 150);
                enter(snapshot());
                if (isTaken) {
                    takePaper(s);
                }
                chains.get(chain).add(n);
                return k;
            }
        }
        return NONE;
    }

    int knock() {
        return ++refused;
    }

    String desk(int place, int radix) {
        place(place);
        argument(radix >= 2 && radix <= 36);
        return desk[place].toString(radix);
    }

    int number(int place, int what) {
        place(place);
        argument(what >= 0 && what <= 4);
        BigInteger n = desk[place];
        switch (what) {
            case 0:
                return n.signum();
            case 1:
                return length(n);
            case 2:
                return n.getLowestSetBit();
            case 3:
                return fold(n);
            default:
                return verdict(n);
        }
    }

    private static int fold(BigInteger n) {
        return n.mod(big(1000003)).intValue();
    }

    boolean bit(int place, int k) {
        place(place);
        argument(k >= 0 && k <= 140);
        return desk[place].testBit(k);
    }

    int compare(int a, int b) {
        place(a);
        place(b);
        return desk[a].compareTo(desk[b]);
    }

    int fault() {
        state(sheet != null);
        return faultOf(sheet);
    }

    String sheetText() {
        return sheet == null ? "" : sheet.text();
    }

    int round(int place, int base) {
        place(place);
        argument(base >= 2 && base <= 1000);
        state(fit(desk[place]));
        return roundSays(desk[place], big(base));
    }

    int passes(int place) {
        place(place);
        state(fit(desk[place]));
        int sum = 0;
        for (int k = 0; k < bases.size(); k++) {
            sum += roundSays(desk[place], big(bases.get(k))) == 0 ? 1 << k : 0;
        }
        return sum;
    }

    private boolean passesAll(int n) {
        for (int base : bases) {
            if (roundSays(big(n), big(base)) != 0) {
                return false;
            }
        }
        return true;
    }

    int passer(int from) {
        argument(from >= 5 && from <= 999999);
        int many = 0;
        for (int n = from; many < 100; n++) {
            if (n % 2 == 1) {
                many++;
                if (!isSifted(n) && passesAll(n)) {
                    return n;
                }
            }
        }
        return NONE;
    }

    int passing(int from, int many) {
        argument(from >= 5 && from <= 999999);
        argument(many >= 1 && many <= 60);
        int told = 0;
        int seen = 0;
        for (int n = from; seen < many; n++) {
            if (n % 2 == 1) {
                seen++;
                told += passesAll(n) ? 1 : 0;
            }
        }
        return told;
    }

    int witnesses(int value) {
        argument(value >= 5 && value <= 255);
        state(value % 2 == 1);
        int told = 0;
        for (int a = 1; a < value; a++) {
            told += roundSays(big(value), big(a)) != 0 ? 1 : 0;
        }
        return told;
    }

    boolean sifted(int value) {
        argument(value >= 2 && value <= 999999);
        return isSifted(value);
    }

    String paper(int paper) {
        paperIndex(paper);
        return papers.get(paper).text();
    }

    int ofPaper(int paper, int what) {
        paperIndex(paper);
        argument(what >= 0 && what <= 6);
        Sheet told = papers.get(paper);
        switch (what) {
            case 0:
                return told.kind;
            case 1:
                return told.yes() ? 1 : 0;
            case 2:
                return !told.held ? 0 : trusted(told) ? 2 : 1;
            case 3:
                return told.row.size();
            case 4:
                return depth(told);
            case 5:
                return underOf(told).size();
            default:
                return fold(told.n);
        }
    }

    int damaged(int paper, int spot, int by) {
        spotIndex(paper, spot);
        argument(by >= -3 && by <= 3);
        Sheet told = papers.get(paper);
        Sheet s = new Sheet(told.kind, spot == 0 ? told.n.add(big(by)) : told.n);
        s.row.addAll(told.row);
        if (spot > 0) {
            s.row.set(spot - 1, s.row.get(spot - 1).add(big(by)));
        }
        return faultOf(s);
    }

    boolean hangs(int paper, int place) {
        paperIndex(paper);
        place(place);
        return underOf(papers.get(paper)).contains(desk[place]);
    }

    String under(int paper) {
        paperIndex(paper);
        StringBuilder text = new StringBuilder();
        for (BigInteger n : underOf(papers.get(paper))) {
            text.append(text.length() > 0 ? " " : "").append(n);
        }
        return text.toString();
    }

    private boolean proved(BigInteger low, BigInteger high) {
        for (BigInteger n = low.add(ONE); n.compareTo(high) < 0; n = n.add(ONE)) {
            if (n.testBit(0) && n.compareTo(big(3)) >= 0 && !isNo(n)) {
                return false;
            }
        }
        return true;
    }

    private TreeSet<BigInteger> numbers(boolean yesAlone) {
        TreeSet<BigInteger> found = new TreeSet<>();
        for (Sheet paper : papers) {
            if (!yesAlone || paper.yes() && trusted(paper)) {
                found.add(paper.n);
            }
        }
        return found;
    }

    int near(int value, boolean isAbove) {
        argument(value >= 0 && value <= 1000000);
        BigInteger v = big(value);
        BigInteger n = isAbove ? numbers(true).higher(v) : numbers(true).lower(v);
        if (n == null || n.subtract(v).abs().compareTo(big(200)) > 0 || !proved(n.min(v), n.max(v))) {
            return NONE;
        }
        return n.intValue();
    }

    int span(int from, int to, int what) {
        argument(from >= 0 && from <= 1000000);
        argument(to >= from && to <= 1000000);
        argument(what >= 0 && what <= 4);
        int told = 0;
        BigInteger last = null;
        for (BigInteger n : numbers(false)) {
            if (!in(n, big(from), big(to))) {
                continue;
            }
            switch (what) {
                case 0:
                    told++;
                    break;
                case 1:
                    told += isYes(n) ? 1 : 0;
                    break;
                case 2:
                    told += isNo(n) ? 1 : 0;
                    break;
                case 3:
                    BigInteger twin = n.add(TWO);
                    told += isYes(n) && isYes(twin) && twin.compareTo(big(to)) <= 0 ? 1 : 0;
                    break;
                default:
                    if (isYes(n)) {
                        if (last != null && n.subtract(last).intValue() <= 200 && proved(last, n)) {
                            told = Math.max(told, n.subtract(last).intValue());
                        }
                        last = n;
                    }
                    break;
            }
        }
        return told;
    }

    String link(int chain, int k) {
        linkIndex(chain, k);
        return chains.get(chain).get(k).toString();
    }

    int ofChain(int chain, int what) {
        chainIndex(chain);
        argument(what >= 0 && what <= 3);
        List<BigInteger> told = chains.get(chain);
        BigInteger last = told.get(told.size() - 1);
        switch (what) {
            case 0:
                return told.size();
            case 1:
                int safe = 0;
                while (safe < told.size() && isYes(told.get(safe))) {
                    safe++;
                }
                return safe;
            case 2:
                return length(last);
            default:
                return fold(last);
        }
    }

    int count(int what) {
        argument(what >= 0 && what <= 9);
        int standing = what == 1 ? 2 : what == 2 ? 0 : 1;
        int told = 0;
        switch (what) {
            case 0:
                return papers.size();
            case 4:
                return numbers(false).size();
            case 5:
                return numbers(true).size();
            case 6:
                return chains.size();
            case 7:
                return entries.size();
            case 8:
                return bases.size();
            case 9:
                return refused;
            default:
                for (int i = 0; i < papers.size(); i++) {
                    told += ofPaper(i, 2) == standing ? 1 : 0;
                }
                return told;
        }
    }

    boolean isSound() {
        for (Sheet paper : papers) {
            for (Sheet other : papers) {
                if (paper.n.equals(other.n) && paper.yes() != other.yes()) {
                    return false;
                }
            }
            boolean isSmall = paper.n.compareTo(big(999999)) <= 0;
            if (isSmall ? isSifted(paper.n.intValue()) != paper.yes()
                    : paper.yes() && roundSays(paper.n, TWO) != 0) {
                return false;
            }
            for (BigInteger q : paper.hangsOn()) {
                if (trusted(paper) && q.compareTo(paper.n) >= 0) {
                    return false;
                }
            }
        }
        for (List<BigInteger> chain : chains) {
            for (int k = 1; k < chain.size(); k++) {
                if (!divides(chain.get(k - 1).multiply(TWO), chain.get(k).subtract(ONE))) {
                    return false;
                }
            }
        }
        return true;
    }

    long digest() {
        long d = 5601;
        for (int what = 0; what < 10; what++) {
            d = d * 31 + count(what);
        }
        for (int place = 0; place < 10; place++) {
            for (int what = 0; what < 5; what++) {
                d = d * 31 + number(place, what);
            }
        }
        for (int base : bases) {
            d = d * 31 + base;
        }
        d = d * 31 + sheetText().length();
        for (int i = 0; i < papers.size(); i++) {
            for (int what = 0; what < 7; what++) {
                d = d * 31 + ofPaper(i, what);
            }
            d = d * 31 + paper(i).length();
        }
        for (int i = 0; i < chains.size(); i++) {
            for (int what = 0; what < 4; what++) {
                d = d * 31 + ofChain(i, what);
            }
        }
        return d * 31 + (isSound() ? 1 : 0);
    }
}
