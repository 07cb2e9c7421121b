import java.math.BigInteger;
import java.util.ArrayList;
import java.util.List;

/** The description's first lines and part 1, and promises 1 to 11 and 29 to 32. */
final class DeskSentences extends Sentences {
    private static final BigInteger HIGHEST = two(130).subtract(ONE);
    private static final BigInteger LOWEST = two(130).negate();

    DeskSentences(Document document, String only) {
        super(document, only);
    }

    @Override
    void all() {
        words();
        desk();
        nothingToReckon();
        changing();
        asking();
    }

    private void words() {
        String s = "part 0";
        sentence(s, "Whole numbers, as long as they are.", this::longNumbers);
        sentence(s, "NONE is -1.", this::none);
        sentence(s, "X^k is the product of k times X; X^0 is 1.", this::powerOfNone);
        sentence(s, "X MOD m, for m above 0, is the one of 0 to m - 1 that differs from X by a multiple of m (for X below 0, too).",
            this::mod);
        sentence(s, "d divides X if X is a multiple of d.", this::divides);
        sentence(s, "GCD of two: the greatest that divides both", this::gcd);
        sentence(s, "0 for two zeros, never below 0 (GCD of 0 and X is X without its sign)", this::gcdOfZero);
        sentence(s, "The ROOT of X from 0 on: the greatest whose square is no more than X.", this::rootOfSquares);
        sentence(s, "Where a list is searched and nothing else is said, the first one found is taken.", this::firstFound);
    }

    private void desk() {
        String s = "part 1";
        sentence(s, "LENGTH of X: the least k from 0 on with X less than 2^k and no less than -(2^k).", this::lengths);
        sentence(s, "X is WITHIN if its LENGTH is 130 or less.", this::within);
        sentence(s, "FOLD of X: X MOD 1000003.", this::fold);
        sentence(s, "HALVES of X: how often it can be halved without a rest", this::halves);
        sentence(s, "(NONE of 0)", this::halvesOfZero);
        sentence(s, "BIT k of X: X divided by 2^k, rounded down (also below 0), MOD 2.", this::bits);
        sentence(s, "The DESK has 10 PLACES, 0 to 9", this::places);
        sentence(s, "with a NUMBER each, 0 at first", this::placesAtFirst);
        sentence(s, "What is put there is WITHIN, or the call is refused.", this::refused);
        sentence(s, "The INVERSE of X by m (above 0): that of 0 to m - 1 whose product with X, MOD m, is 1 MOD m",
            this::inverses);
        sentence(s, "there is one just if GCD of X and m is 1", this::noInverses);
        sentence(s, "(By 1 it is 0.)", this::inverseByOne);
        sentence(s, "The POWER of X to e by m (above 0): X^e MOD m", this::powers);
        sentence(s, "for e below 0 the POWER of the INVERSE of X by m to -e", this::powersBelow);
        sentence(s, "U(0) is 0, U(1) is 1, U(k + 2) is P * U(k + 1) - Q * U(k).", this::lucasRow);
    }

    private void nothingToReckon() {
        String s = "part 1";
        sentence(s, "there is nothing to be reckoned: a division by 0", this::divisionByZero);
        sentence(s, "a MOD of a number that is not above 0", this::modOfZero);
        sentence(s, "an INVERSE that there is not", this::inverseThatIsNot);
        sentence(s, "a ROOT of a number below 0", this::rootBelow);
        sentence(s, "Nothing is changed then", this::nothingChanged);
        sentence(s, "(exceptions go ahead of it)", this::exceptionsAhead);
    }

    private void changing() {
        sentence("promise 1", "Creates an office with an empty desk.", this::newOffice);
        sentence("promise 2", "if there is no such PLACE", this::putNowhere);
        sentence("promise 2", "Returns its LENGTH.", this::putLength);
        sentence("promise 3", "- base: 2 to 1000", this::makeBase);
        sentence("promise 3", "- exponent: 0 to 129", this::makeExponent);
        sentence("promise 3", "- add: -1000 to 1000", this::makeAdd);
        sentence("promise 3", "if there is no such PLACE", this::makeNowhere);
        sentence("promise 3", "if base, exponent or add is not in its bounds", this::makeArguments);
        sentence("promise 3", "if it is not WITHIN", this::makeTooLong);
        sentence("promise 3", "Returns its LENGTH.", this::makeLength);
        sentence("promise 4", "- what: 0 A + B, 1 A - B, 2 A * B, 3 A divided by B, rounded towards 0, 4 A less B times that, "
            + "5 A MOD B, 6 their GCD", this::workKinds);
        sentence("promise 4", "if what is not 0 to 6", this::workWhat);
        sentence("promise 4", "if there is no such PLACE as place, a or b", this::workNowhere);
        sentence("promise 4", "if it is not WITHIN", this::workTooLong);
        sentence("promise 4", "Returns its LENGTH, or -9.", this::workLength);
        sentence("promise 5", "if there is no such PLACE as place or a", this::rootNowhere);
        sentence("promise 5", "Returns its LENGTH, or -9.", this::rootLength);
        sentence("promise 6", "if there is no such PLACE as place, a, e or m", this::powerNowhere);
        sentence("promise 6", "if the NUMBERS of a and e are both 0", this::powerOfZeros);
        sentence("promise 6", "Returns its LENGTH, or -9.", this::powerLength);
        sentence("promise 7", "if there is no such PLACE as place, a or m", this::inverseNowhere);
        sentence("promise 7", "Returns its LENGTH, or -9.", this::inverseLength);
        sentence("promise 8", "times 2^by on the DESK, rounded down (also below 0)", this::shiftDown);
        sentence("promise 8", "- by: -140 to 140", this::shiftBounds);
        sentence("promise 8", "if there is no such PLACE as place or a", this::shiftNowhere);
        sentence("promise 8", "if by is not in its bounds", this::shiftArgument);
        sentence("promise 8", "if it is not WITHIN", this::shiftTooLong);
        sentence("promise 8", "Returns its LENGTH.", this::shiftLength);
        sentence("promise 9", "- p: P, 1 to 100", this::lucasP);
        sentence("promise 9", "- q: Q, -100 to 100, not 0", this::lucasQ);
        sentence("promise 9", "if there is no such PLACE as place, k or m", this::lucasNowhere);
        sentence("promise 9", "if p or q is not in its bounds", this::lucasArguments);
        sentence("promise 9", "if k is below 0", this::lucasBelow);
        sentence("promise 9", "Returns its LENGTH, or -9.", this::lucasLength);
        sentence("promise 10", "a SPOT of it, not its END", this::fetchSpots);
        sentence("promise 10", "if there is no such PLACE, PAPER or SPOT", this::fetchNowhere);
        sentence("promise 10", "Returns its LENGTH.", this::fetchLength);
        sentence("promise 11", "- k: which one of it, from 0", this::takeLinks);
        sentence("promise 11", "if there is no such PLACE or CHAIN, or k is not one of it", this::takeNowhere);
        sentence("promise 11", "Returns its LENGTH.", this::takeLength);
    }

    private void asking() {
        sentence("promise 29", "- radix: 2 to 36", this::deskRadix);
        sentence("promise 29", "Returns its NUMBER, written to that radix (digits 0 to 9, then a to z", this::deskDigits);
        sentence("promise 29", "below 0 with \"-\" first, 0 is \"0\"", this::deskSigns);
        sentence("promise 29", "if there is no such PLACE", this::deskNowhere);
        sentence("promise 29", "if radix is not in its bounds", this::deskArgument);
        sentence("promise 30", "- what: of its NUMBER: 0 whether it is below 0, 0 or above (-1, 0, 1), 1 LENGTH, 2 HALVES, "
            + "3 FOLD, 4 VERDICT", this::numberKinds);
        sentence("promise 30", "if what is not 0 to 4", this::numberWhat);
        sentence("promise 30", "if there is no such PLACE", this::numberNowhere);
        sentence("promise 30", "Returns that.", this::numberOfEach);
        sentence("promise 31", "- k: 0 to 140", this::bitBounds);
        sentence("promise 31", "if k is not in its bounds", this::bitArgument);
        sentence("promise 31", "if there is no such PLACE", this::bitNowhere);
        sentence("promise 31", "Returns whether BIT k of its NUMBER is 1.", this::bitTold);
        sentence("promise 32", "if there is no such PLACE as a or b", this::compareNowhere);
        sentence("promise 32", "Returns -1, 0 or 1, as the NUMBER of a is less than that of b, the same, or greater.",
            this::compareTold);
    }

    // ---- the first lines

    private void lies(Witnesshall x, int place, BigInteger due) {
        is(x.desk(place, 10), due.toString());
    }

    private void lies(Witnesshall x, int place, long due) {
        lies(x, place, big(due));
    }

    private void longNumbers() {
        Witnesshall x = office();
        x.make(0, 3, 81, 0);
        x.make(1, 7, 46, 0);
        x.work(2, 1, 0, 1);
        lies(x, 2, big(3).pow(81).subtract(big(7).pow(46)));
        x.work(2, 6, 0, 2);
        lies(x, 2, ONE);
        x.make(3, 10, 19, 39);
        x.work(4, 2, 3, 3);
        lies(x, 4, BigInteger.TEN.pow(19).add(big(39)).pow(2));
    }

    private void none() {
        Witnesshall x = office();
        is(x.number(0, 2), -1);
        is(x.number(0, 4), -1);
        is(x.near(0, true), -1);
    }

    private void powerOfNone() {
        Witnesshall x = office();
        for (int base : new int[] {2, 3, 1000}) {
            x.make(0, base, 0, 0);
            lies(x, 0, 1);
            x.make(0, base, 1, 0);
            lies(x, 0, base);
        }
        x.put(2, 5);
        for (int a : new int[] {1, 2, 5, 10, -1, -5}) {
            x.put(0, a);
            x.put(1, 0);
            x.power(3, 0, 1, 2);
            lies(x, 3, 1);
            x.put(1, 1);
            x.power(3, 0, 1, 2);
            lies(x, 3, Math.floorMod(a, 5));
        }
    }

    private void mod() {
        Witnesshall x = office();
        for (int m = 1; m <= 7; m++) {
            for (int a = -15; a <= 15; a++) {
                x.put(0, a);
                x.put(1, m);
                is(x.work(2, 5, 0, 1), length(big(Math.floorMod(a, m))));
                lies(x, 2, Math.floorMod(a, m));
            }
        }
        lay(x, 0, LOWEST);
        for (BigInteger m : new BigInteger[] {HIGHEST, two(129), two(129).add(ONE), two(60).subtract(ONE), ONE}) {
            lay(x, 1, m);
            x.work(2, 5, 0, 1);
            lies(x, 2, LOWEST.mod(m));
        }
    }

    private void divides() {
        for (int d = 2; d < 36; d++) {
            is(faultOf(office(), 0, 36, d), 36 % d == 0 ? NONE : 1);
        }
        is(faultOf(office(), 0, 37, 36), 1);
        is(faultOf(office(), 0, 35, 36), 1);
    }

    private void gcd() {
        Witnesshall x = office();
        for (int a = -13; a <= 13; a++) {
            for (int b = -12; b <= 18; b += 3) {
                x.put(0, a);
                x.put(1, b);
                x.work(2, 6, 0, 1);
                lies(x, 2, big(a).gcd(big(b)));
            }
        }
        lay(x, 0, two(60).multiply(big(3).pow(40)));
        lay(x, 1, two(80).multiply(big(3).pow(20)).negate());
        x.work(2, 6, 0, 1);
        lies(x, 2, two(60).multiply(big(3).pow(20)));
    }

    private void gcdOfZero() {
        Witnesshall x = office();
        x.put(2, 7);
        is(x.work(2, 6, 0, 1), 0);
        lies(x, 2, 0);
        for (BigInteger a : new BigInteger[] {ONE, ONE.negate(), big(6), big(-6), HIGHEST, HIGHEST.negate(), two(60).negate()}) {
            lay(x, 0, a);
            lay(x, 1, BigInteger.ZERO);
            x.work(2, 6, 0, 1);
            lies(x, 2, a.abs());
            x.work(2, 6, 1, 0);
            lies(x, 2, a.abs());
            x.work(2, 6, 0, 0);
            lies(x, 2, a.abs());
        }
    }

    private void rootOfSquares() {
        Witnesshall x = office();
        List<BigInteger> roots = new ArrayList<>();
        for (int r = 0; r <= 40; r++) {
            roots.add(big(r));
        }
        for (int k = 29; k <= 65; k++) {
            roots.add(two(k).subtract(ONE));
            roots.add(two(Math.min(k, 64)));
            roots.add(two(Math.min(k, 64)).add(ONE));
        }
        roots.add(HIGHEST.sqrt());
        for (BigInteger r : roots) {
            lay(x, 0, r.multiply(r));
            is(x.root(1, 0), length(r));
            lies(x, 1, r);
            BigInteger below = r.multiply(r).subtract(ONE);
            if (below.signum() >= 0) {
                lay(x, 0, below);
                x.root(1, 0);
                lies(x, 1, r.subtract(ONE));
            }
            BigInteger above = r.add(ONE).pow(2).subtract(ONE);
            if (above.compareTo(HIGHEST) <= 0) {
                lay(x, 0, above);
                x.root(1, 0);
                lies(x, 1, r);
            }
        }
        lay(x, 0, HIGHEST);
        x.root(1, 0);
        lies(x, 1, two(65).subtract(ONE));
    }

    /** The first base, and the first pair of P and Q, though later ones would do as well. */
    private void firstFound() {
        Witnesshall x = office();
        is(found(x, 2, 85), "85 no root 16");
        is(x.round(0, 33), 2);
        is(faultOf(x, 2, 85, 69), NONE);
        is(found(x, 3, 703), "703 no lucas 1 2");
        is(faultOf(x, 3, 703, 3, -3), NONE);
    }

    // ---- part 1

    private void lengths() {
        Witnesshall x = office();
        for (int k = 0; k <= 130; k++) {
            lay(x, 0, two(k).subtract(ONE));
            is(x.number(0, 1), k);
            lay(x, 0, two(k).negate());
            is(x.number(0, 1), k);
            if (k < 130) {
                lay(x, 0, two(k));
                is(x.number(0, 1), k + 1);
                lay(x, 0, two(k).negate().subtract(ONE));
                is(x.number(0, 1), k + 1);
            }
        }
        is(x.put(0, 0), 0);
        is(x.put(0, -1), 0);
        is(x.put(0, 1), 1);
    }

    /** Each call that could leave what is WITHIN, just at the bound and one step beyond, above 0 and below. */
    private void within() {
        Witnesshall x = office();
        is(x.make(0, 4, 65, -1), 130);
        noState(x, () -> x.make(0, 4, 65, 0));
        lay(x, 0, HIGHEST);
        lay(x, 1, LOWEST);
        x.put(2, 1);
        x.put(3, 0);
        x.put(4, -1);
        is(x.work(5, 0, 0, 3), 130);
        is(x.work(5, 0, 1, 3), 130);
        noState(x, () -> x.work(5, 0, 0, 2));
        noState(x, () -> x.work(5, 0, 1, 4));
        is(x.work(5, 1, 1, 3), 130);
        noState(x, () -> x.work(5, 1, 1, 2));
        noState(x, () -> x.work(5, 1, 0, 4));
        is(x.work(5, 3, 1, 2), 130);
        noState(x, () -> x.work(5, 3, 1, 4));
        is(x.work(5, 3, 0, 4), 130);
        is(x.work(5, 6, 0, 3), 130);
        noState(x, () -> x.work(5, 6, 1, 3));
        is(x.shift(5, 2, 129), 130);
        noState(x, () -> x.shift(5, 2, 130));
        is(x.shift(5, 4, 130), 130);
        noState(x, () -> x.shift(5, 4, 131));
        lay(x, 6, two(65).negate());
        lay(x, 7, two(65));
        is(x.work(5, 2, 6, 7), 130);
        noState(x, () -> x.work(5, 2, 6, 6));
        noState(x, () -> x.work(5, 2, 7, 7));
        lay(x, 7, two(65).subtract(ONE));
        is(x.work(5, 2, 7, 7), 130);
    }

    private void fold() {
        Witnesshall x = office();
        BigInteger m = big(1000003);
        for (BigInteger a : new BigInteger[] {BigInteger.ZERO, ONE, ONE.negate(), m, m.negate(), m.subtract(ONE), m.add(ONE),
            ONE.subtract(m), m.negate().subtract(ONE), m.pow(6), m.pow(6).negate(), m.pow(6).subtract(ONE), HIGHEST, LOWEST}) {
            lay(x, 0, a);
            is(x.number(0, 3), a.mod(m).intValue());
        }
    }

    private void halves() {
        Witnesshall x = office();
        for (int k = 0; k <= 130; k++) {
            lay(x, 0, two(k).negate());
            is(x.number(0, 2), k);
            if (k <= 128) {
                lay(x, 0, two(k).multiply(big(3)));
                is(x.number(0, 2), k);
            }
        }
        x.put(0, 1);
        is(x.number(0, 2), 0);
        lay(x, 0, HIGHEST);
        is(x.number(0, 2), 0);
    }

    private void halvesOfZero() {
        Witnesshall x = office();
        is(x.number(0, 2), NONE);
        x.put(0, 6);
        x.work(0, 1, 0, 0);
        is(x.number(0, 2), NONE);
    }

    private void bits() {
        Witnesshall x = office();
        for (BigInteger a : new BigInteger[] {BigInteger.ZERO, ONE, ONE.negate(), TWO, big(-2), big(-3), two(129), two(129).negate(),
            HIGHEST, HIGHEST.negate(), LOWEST, two(30).negate(), two(60).add(ONE).negate()}) {
            lay(x, 0, a);
            for (int k = 0; k <= 140; k++) {
                is(x.bit(0, k), a.shiftRight(k).testBit(0));
            }
        }
    }

    private void places() {
        Witnesshall x = office();
        for (int place = 0; place <= 9; place++) {
            x.put(place, 100 + place);
        }
        for (int place = 0; place <= 9; place++) {
            lies(x, place, 100 + place);
        }
        for (int place : NO_PLACES) {
            noIndex(x, () -> x.put(place, 1));
            noIndex(x, () -> x.desk(place, 10));
        }
    }

    private void placesAtFirst() {
        Witnesshall x = office();
        for (int place = 0; place <= 9; place++) {
            lies(x, place, 0);
        }
    }

    private void refused() {
        Witnesshall x = office();
        lay(x, 0, HIGHEST);
        lay(x, 1, LOWEST);
        x.put(2, 1);
        x.put(3, -1);
        for (int place = 0; place <= 3; place++) {
            int target = place;
            String before = x.desk(target, 10);
            noState(x, () -> x.work(target, 0, 0, 2));
            noState(x, () -> x.work(target, 1, 1, 2));
            noState(x, () -> x.work(target, 2, 0, 0));
            noState(x, () -> x.work(target, 3, 1, 3));
            noState(x, () -> x.work(target, 6, 1, 1));
            noState(x, () -> x.shift(target, 1, 1));
            noState(x, () -> x.make(target, 1000, 129, 0));
            is(x.desk(target, 10), before);
        }
    }

    private static int inverseOf(int a, int m) {
        for (int b = 0; b < m; b++) {
            if (Math.floorMod(a * b, m) == 1 % m) {
                return b;
            }
        }
        return NOTHING;
    }

    private void inverses() {
        Witnesshall x = office();
        for (int m = 1; m <= 16; m++) {
            for (int a = -17; a <= 17; a++) {
                int due = inverseOf(a, m);
                if (due != NOTHING) {
                    x.put(0, a);
                    x.put(1, m);
                    is(x.inverse(2, 0, 1), length(big(due)));
                    lies(x, 2, due);
                }
            }
        }
        lay(x, 1, HIGHEST);
        lay(x, 0, two(64).negate());
        x.inverse(2, 0, 1);
        lies(x, 2, two(64).negate().modInverse(HIGHEST));
    }

    private void noInverses() {
        Witnesshall x = office();
        x.put(2, 77);
        for (int m = 1; m <= 16; m++) {
            for (int a = -17; a <= 17; a++) {
                x.put(0, a);
                x.put(1, m);
                boolean isThere = big(a).gcd(big(m)).equals(ONE);
                is(inverseOf(a, m) != NOTHING, isThere);
                if (isThere) {
                    is(x.inverse(3, 0, 1) >= 0, true);
                } else {
                    isQuietly(x, () -> x.inverse(2, 0, 1), NOTHING);
                }
            }
        }
    }

    private void inverseByOne() {
        Witnesshall x = office();
        x.put(1, 1);
        for (int a : new int[] {0, 1, -1, 5, -5, MAX}) {
            x.put(0, a);
            x.put(2, 77);
            is(x.inverse(2, 0, 1), 0);
            lies(x, 2, 0);
        }
        x.put(1, 2);
        x.put(0, 1);
        is(x.inverse(2, 0, 1), 1);
    }

    private void powers() {
        Witnesshall x = office();
        for (int a = -5; a <= 5; a++) {
            for (int e = 0; e <= 5; e++) {
                for (int m = 1; m <= 9; m++) {
                    if (a == 0 && e == 0) {
                        continue;
                    }
                    x.put(0, a);
                    x.put(1, e);
                    x.put(2, m);
                    BigInteger due = big(a).pow(e).mod(big(m));
                    is(x.power(3, 0, 1, 2), length(due));
                    lies(x, 3, due);
                }
            }
        }
        lay(x, 0, LOWEST);
        lay(x, 1, HIGHEST);
        lay(x, 2, HIGHEST.subtract(TWO));
        x.power(3, 0, 1, 2);
        lies(x, 3, LOWEST.modPow(HIGHEST, HIGHEST.subtract(TWO)));
    }

    private void powersBelow() {
        Witnesshall x = office();
        for (int a = -5; a <= 5; a++) {
            for (int e = -4; e <= -1; e++) {
                for (int m = 1; m <= 9; m++) {
                    x.put(0, a);
                    x.put(1, e);
                    x.put(2, m);
                    x.put(3, 77);
                    int inverse = inverseOf(a, m);
                    int told = x.power(3, 0, 1, 2);
                    BigInteger due = inverse == NOTHING ? big(77) : big(inverse).pow(-e).mod(big(m));
                    is(told, inverse == NOTHING ? NOTHING : length(due));
                    lies(x, 3, due);
                }
            }
        }
        lay(x, 0, big(3));
        lay(x, 1, LOWEST);
        lay(x, 2, HIGHEST.subtract(TWO));
        x.power(3, 0, 1, 2);
        lies(x, 3, big(3).modPow(LOWEST, HIGHEST.subtract(TWO)));
    }

    private static BigInteger lucasAt(int p, int q, int k) {
        BigInteger u = BigInteger.ZERO;
        BigInteger after = ONE;
        for (int i = 0; i < k; i++) {
            BigInteger then = big(p).multiply(after).subtract(big(q).multiply(u));
            u = after;
            after = then;
        }
        return u;
    }

    private void lucasRow() {
        Witnesshall x = office();
        for (int p : new int[] {1, 2, 99, 100}) {
            for (int q : new int[] {-100, -99, -1, 1, 99, 100}) {
                for (int m : new int[] {1, 2, 7, 1000003, MAX}) {
                    for (int k = 0; k <= 12; k++) {
                        x.put(0, k);
                        x.put(1, m);
                        BigInteger due = lucasAt(p, q, k).mod(big(m));
                        is(x.lucas(2, p, q, 0, 1), length(due));
                        lies(x, 2, due);
                    }
                }
            }
        }
        lay(x, 1, HIGHEST);
        x.put(0, 18);
        x.lucas(2, 100, -100, 0, 1);
        lies(x, 2, lucasAt(100, -100, 18).mod(HIGHEST));
        x.lucas(2, 100, 100, 0, 1);
        lies(x, 2, lucasAt(100, 100, 18).mod(HIGHEST));
    }

    // ---- where there is nothing to be reckoned

    private void divisionByZero() {
        Witnesshall x = office();
        x.put(3, 77);
        for (int a : new int[] {0, 1, -5}) {
            x.put(0, a);
            x.put(1, 0);
            isQuietly(x, () -> x.work(3, 3, 0, 1), NOTHING);
            isQuietly(x, () -> x.work(3, 4, 0, 1), NOTHING);
            for (int b : new int[] {1, -1}) {
                x.put(1, b);
                is(x.work(4, 3, 0, 1) >= 0, true);
                is(x.work(4, 4, 0, 1), 0);
            }
        }
    }

    private void modOfZero() {
        Witnesshall x = office();
        x.put(2, 2);
        x.put(3, 77);
        for (BigInteger m : new BigInteger[] {BigInteger.ZERO, ONE.negate(), big(-7), LOWEST}) {
            lay(x, 1, m);
            x.put(0, 1);
            isQuietly(x, () -> x.inverse(3, 0, 1), NOTHING);
            x.put(0, 5);
            isQuietly(x, () -> x.work(3, 5, 0, 1), NOTHING);
            isQuietly(x, () -> x.power(3, 0, 2, 1), NOTHING);
            isQuietly(x, () -> x.inverse(3, 0, 1), NOTHING);
            isQuietly(x, () -> x.lucas(3, 1, -1, 2, 1), NOTHING);
        }
        x.put(1, 1);
        is(x.work(4, 5, 0, 1), 0);
        is(x.power(4, 0, 2, 1), 0);
        is(x.inverse(4, 0, 1), 0);
        is(x.lucas(4, 1, -1, 2, 1), 0);
    }

    private void inverseThatIsNot() {
        Witnesshall x = office();
        x.put(2, -1);
        x.put(3, 77);
        int[][] pairs = {{0, 2}, {2, 4}, {-3, 9}, {6, 3}, {0, MAX}};
        for (int[] pair : pairs) {
            x.put(0, pair[0]);
            x.put(1, pair[1]);
            isQuietly(x, () -> x.inverse(3, 0, 1), NOTHING);
            isQuietly(x, () -> x.power(3, 0, 2, 1), NOTHING);
        }
    }

    private void rootBelow() {
        Witnesshall x = office();
        x.put(3, 77);
        for (BigInteger a : new BigInteger[] {ONE.negate(), big(-4), LOWEST}) {
            lay(x, 0, a);
            isQuietly(x, () -> x.root(3, 0), NOTHING);
        }
        x.put(0, 0);
        is(x.root(3, 0), 0);
        lies(x, 3, 0);
    }

    private void nothingChanged() {
        Witnesshall x = office();
        x.put(0, -7);
        x.put(1, 0);
        for (int place = 0; place <= 9; place++) {
            int target = place;
            isQuietly(x, () -> x.work(target, 3, 0, 1), NOTHING);
            isQuietly(x, () -> x.work(target, 5, 1, 0), NOTHING);
            isQuietly(x, () -> x.root(target, 0), NOTHING);
            isQuietly(x, () -> x.power(target, 0, 0, 1), NOTHING);
            isQuietly(x, () -> x.inverse(target, 0, 0), NOTHING);
            isQuietly(x, () -> x.lucas(target, 1, 1, 1, 0), NOTHING);
        }
    }

    private void exceptionsAhead() {
        Witnesshall x = office();
        x.put(1, -1);
        noIndex(x, () -> x.work(10, 3, 1, 0));
        noArgument(x, () -> x.work(0, 7, 1, 0));
        noIndex(x, () -> x.root(10, 1));
        noIndex(x, () -> x.power(10, 1, 1, 0));
        noState(x, () -> x.power(2, 0, 0, 0));
        noState(x, () -> x.power(2, 0, 0, 1));
        noIndex(x, () -> x.inverse(10, 1, 0));
        noIndex(x, () -> x.lucas(10, 1, 1, 0, 0));
        noArgument(x, () -> x.lucas(2, 0, 1, 0, 0));
        noArgument(x, () -> x.lucas(2, 1, 0, 0, 0));
        noState(x, () -> x.lucas(2, 1, 1, 1, 0));
        noState(x, () -> x.lucas(2, 1, 1, 1, 1));
    }

    // ---- promises 1 to 11

    private void newOffice() {
        Witnesshall x = office();
        for (int place = 0; place <= 9; place++) {
            lies(x, place, 0);
        }
        is(x.sheetText(), "");
        for (int what = 0; what <= 9; what++) {
            is(x.count(what), 0);
        }
        is(x.isSound(), true);
        noIndex(x, () -> x.paper(0));
        noIndex(x, () -> x.link(0, 0));
        noIndex(x, () -> x.drop(0));
        noState(x, () -> x.fault());
        noState(x, () -> x.undo());
    }

    private void putNowhere() {
        Witnesshall x = office();
        for (int place : NO_PLACES) {
            noIndex(x, () -> x.put(place, 0));
        }
        is(x.put(0, 1), 1);
        is(x.put(9, 1), 1);
    }

    private void putLength() {
        Witnesshall x = office();
        for (int value : new int[] {0, 1, -1, 2, -2, -3, 255, 256, -256, -257, MAX, MIN, MIN + 1, 1 << 30, -(1 << 30)}) {
            is(x.put(3, value), length(big(value)));
            lies(x, 3, value);
        }
    }

    private void makeBase() {
        Witnesshall x = office();
        is(x.make(0, 2, 1, 0), 2);
        lies(x, 0, 2);
        is(x.make(0, 1000, 1, 0), 10);
        lies(x, 0, 1000);
        for (int base : new int[] {1, 1001, 0, -2, MIN, MAX}) {
            noArgument(x, () -> x.make(0, base, 1, 0));
        }
    }

    private void makeExponent() {
        Witnesshall x = office();
        is(x.make(0, 2, 0, 0), 1);
        lies(x, 0, 1);
        is(x.make(0, 2, 129, 0), 130);
        lies(x, 0, two(129));
        for (int exponent : new int[] {-1, 130, MIN, MAX}) {
            noArgument(x, () -> x.make(0, 2, exponent, 0));
        }
    }

    private void makeAdd() {
        Witnesshall x = office();
        is(x.make(0, 2, 0, -1000), 10);
        lies(x, 0, -999);
        is(x.make(0, 2, 0, 1000), 10);
        lies(x, 0, 1001);
        for (int add : new int[] {-1001, 1001, MIN, MAX}) {
            noArgument(x, () -> x.make(0, 2, 0, add));
        }
    }

    private void makeNowhere() {
        Witnesshall x = office();
        for (int place : NO_PLACES) {
            noIndex(x, () -> x.make(place, 2, 1, 0));
            noIndex(x, () -> x.make(place, 1, 130, 1001));
            noIndex(x, () -> x.make(place, 1000, 129, 0));
        }
        is(x.make(0, 2, 1, 0), 2);
        is(x.make(9, 2, 1, 0), 2);
    }

    private void makeArguments() {
        Witnesshall x = office();
        noArgument(x, () -> x.make(0, 1001, 129, 0));
        noArgument(x, () -> x.make(0, 1000, 130, 0));
        noArgument(x, () -> x.make(0, 1000, 129, 1001));
        noArgument(x, () -> x.make(0, 1, 0, 0));
        noArgument(x, () -> x.make(0, 2, -1, 0));
        noArgument(x, () -> x.make(0, 2, 0, -1001));
    }

    private void makeTooLong() {
        Witnesshall x = office();
        is(x.make(0, 32, 26, -1), 130);
        lies(x, 0, HIGHEST);
        noState(x, () -> x.make(0, 32, 26, 0));
        noState(x, () -> x.make(0, 32, 26, 1));
        is(x.make(0, 32, 26, -1000), 130);
        lies(x, 0, HIGHEST.subtract(big(999)));
        noState(x, () -> x.make(0, 3, 83, -1000));
        is(x.make(0, 3, 82, 1000), length(big(3).pow(82)));
        noState(x, () -> x.make(0, 1000, 129, -1000));
        noState(x, () -> x.make(0, 512, 128, 0));
        noState(x, () -> x.make(0, 1000, 14, 0));
        is(x.make(0, 1000, 13, 0), 130);
    }

    private void makeLength() {
        Witnesshall x = office();
        for (int exponent = 0; exponent <= 129; exponent++) {
            is(x.make(1, 2, exponent, 0), exponent + 1);
            is(x.make(1, 2, exponent, -1), exponent);
            lies(x, 1, two(exponent).subtract(ONE));
        }
    }

    private void workKinds() {
        Witnesshall x = office();
        for (int a : new int[] {0, 1, -1, 7, -7, 12, -12, MAX, MIN}) {
            for (int b : new int[] {1, -1, 3, -3, 4, -8, MAX, MIN}) {
                BigInteger first = big(a);
                BigInteger second = big(b);
                BigInteger[] due = {first.add(second), first.subtract(second), first.multiply(second), first.divide(second),
                    first.remainder(second), b > 0 ? first.mod(second) : null, first.gcd(second)};
                for (int what = 0; what <= 6; what++) {
                    x.put(0, a);
                    x.put(1, b);
                    x.put(2, 77);
                    x.work(2, what, 0, 1);
                    lies(x, 2, due[what] == null ? big(77) : due[what]);
                }
            }
        }
        x.put(4, 6);
        x.work(4, 2, 4, 4);
        lies(x, 4, 36);
        longDivision(x);
    }

    /** Numbers of few and of nearly all bits, where a digit of the quotient is easily guessed too great. */
    private void longDivision(Witnesshall x) {
        int[] digits = {0, 1, (1 << 29) - 1, 1 << 29, (1 << 29) + 1, (1 << 30) - 2, (1 << 30) - 1};
        List<BigInteger> dividends = new ArrayList<>();
        List<BigInteger> divisors = new ArrayList<>();
        for (int high : digits) {
            for (int middle : digits) {
                for (int low : digits) {
                    dividends.add(joined(joined(big(high), middle), low));
                    dividends.add(joined(joined(joined(big(high), middle), low), 7));
                    divisors.add(joined(joined(big(high), middle), low));
                }
                divisors.add(joined(big(high), middle));
            }
        }
        int wrong = 0;
        for (int i = 0; i < divisors.size(); i += 3) {
            if (divisors.get(i).signum() != 0) {
                lay(x, 1, divisors.get(i));
                for (BigInteger dividend : dividends) {
                    lay(x, 0, dividend);
                    x.work(2, 3, 0, 1);
                    x.work(3, 4, 0, 1);
                    BigInteger[] due = dividend.divideAndRemainder(divisors.get(i));
                    wrong += at(x, 2).equals(due[0]) && at(x, 3).equals(due[1]) ? 0 : 1;
                }
            }
        }
        is(wrong, 0);
    }

    private static BigInteger joined(BigInteger high, int low) {
        return high.shiftLeft(30).add(big(low));
    }

    private void workWhat() {
        Witnesshall x = office();
        x.put(1, 1);
        is(x.work(0, 0, 1, 1), 2);
        is(x.work(0, 6, 1, 1), 1);
        for (int what : new int[] {-1, 7, MIN, MAX}) {
            noArgument(x, () -> x.work(0, what, 1, 1));
        }
    }

    private void workNowhere() {
        Witnesshall x = office();
        x.put(1, 1);
        for (int place : NO_PLACES) {
            for (int what : new int[] {0, 3, -1, 7}) {
                noIndex(x, () -> x.work(place, what, 1, 1));
                noIndex(x, () -> x.work(1, what, place, 1));
                noIndex(x, () -> x.work(1, what, 1, place));
            }
        }
        is(x.work(9, 0, 0, 1), 1);
        is(x.work(0, 0, 9, 1), 2);
        is(x.work(0, 0, 1, 9), 2);
    }

    private void workTooLong() {
        Witnesshall x = office();
        lay(x, 1, HIGHEST);
        lay(x, 2, LOWEST);
        x.put(3, 1);
        x.put(4, -1);
        noState(x, () -> x.work(0, 0, 1, 3));
        noState(x, () -> x.work(0, 0, 2, 4));
        noState(x, () -> x.work(0, 1, 2, 3));
        noState(x, () -> x.work(0, 1, 1, 4));
        noState(x, () -> x.work(0, 2, 2, 4));
        is(x.work(0, 2, 1, 4), 130);
        noState(x, () -> x.work(0, 3, 2, 4));
        noState(x, () -> x.work(0, 6, 2, 2));
        is(x.work(0, 4, 2, 4), 0);
        is(x.work(0, 5, 2, 1), 130);
        lies(x, 0, LOWEST.mod(HIGHEST));
        noIndex(x, () -> x.work(10, 0, 1, 3));
    }

    private void workLength() {
        Witnesshall x = office();
        for (int[] pair : new int[][] {{0, 0}, {1, 0}, {-1, 0}, {-2, 0}, {5, -6}, {-100, -28}, {-100, -29}, {100, 27}, {100, 28}}) {
            x.put(0, pair[0]);
            x.put(1, pair[1]);
            is(x.work(2, 0, 0, 1), length(big(pair[0] + pair[1])));
        }
        x.put(1, 0);
        is(x.work(2, 3, 0, 1), -9);
    }

    private void rootNowhere() {
        Witnesshall x = office();
        x.put(1, -1);
        for (int place : NO_PLACES) {
            noIndex(x, () -> x.root(place, 0));
            noIndex(x, () -> x.root(place, 1));
            noIndex(x, () -> x.root(0, place));
        }
        is(x.root(9, 0), 0);
        is(x.root(0, 9), 0);
    }

    private void rootLength() {
        Witnesshall x = office();
        for (int n : new int[] {0, 1, 3, 4, 15, 16, 63, 64, MAX}) {
            x.put(0, n);
            is(x.root(1, 0), length(big(n).sqrt()));
        }
        x.put(0, -1);
        is(x.root(1, 0), -9);
        x.put(0, 25);
        is(x.root(0, 0), 3);
        lies(x, 0, 5);
    }

    private void powerNowhere() {
        Witnesshall x = office();
        x.put(1, 3);
        for (int place : NO_PLACES) {
            noIndex(x, () -> x.power(place, 1, 1, 1));
            noIndex(x, () -> x.power(2, place, 1, 1));
            noIndex(x, () -> x.power(2, 1, place, 1));
            noIndex(x, () -> x.power(2, 1, 1, place));
            noIndex(x, () -> x.power(place, 0, 0, 1));
            noIndex(x, () -> x.power(2, 0, 0, place));
        }
        x.put(9, 2);
        is(x.power(9, 9, 9, 1), 1);
        lies(x, 9, 1);
    }

    private void powerOfZeros() {
        Witnesshall x = office();
        x.put(1, 7);
        x.put(2, 1);
        x.put(3, -1);
        noState(x, () -> x.power(5, 0, 0, 1));
        noState(x, () -> x.power(5, 0, 4, 2));
        noState(x, () -> x.power(5, 0, 4, 3));
        noState(x, () -> x.power(5, 0, 4, 0));
        is(x.power(5, 0, 2, 1), 0);
        is(x.power(5, 2, 0, 1), 1);
        is(x.power(5, 0, 3, 1), -9);
        is(x.power(5, 0, 3, 2), 0);
    }

    private void powerLength() {
        Witnesshall x = office();
        x.put(0, 2);
        x.put(2, 1000);
        for (int e = 0; e <= 9; e++) {
            x.put(1, e);
            is(x.power(3, 0, 1, 2), e + 1);
        }
        x.put(1, -1);
        is(x.power(3, 0, 1, 2), -9);
    }

    private void inverseNowhere() {
        Witnesshall x = office();
        x.put(1, 1);
        for (int place : NO_PLACES) {
            noIndex(x, () -> x.inverse(place, 1, 1));
            noIndex(x, () -> x.inverse(2, place, 1));
            noIndex(x, () -> x.inverse(2, 1, place));
            noIndex(x, () -> x.inverse(place, 0, 0));
        }
        is(x.inverse(9, 9, 1), 0);
    }

    private void inverseLength() {
        Witnesshall x = office();
        x.put(1, 257);
        for (int a = 1; a < 257; a += 5) {
            x.put(0, a);
            is(x.inverse(2, 0, 1), length(big(inverseOf(a, 257))));
        }
        x.put(0, 257);
        is(x.inverse(2, 0, 1), -9);
    }

    private void shiftDown() {
        Witnesshall x = office();
        for (BigInteger a : new BigInteger[] {big(5), big(-5), big(-4), ONE, ONE.negate(), BigInteger.ZERO, HIGHEST, LOWEST,
            two(60).negate(), two(60).add(ONE).negate()}) {
            for (int by : new int[] {0, 1, 2, 3, 29, 30, 31, 59, 60, 61, 129, 130, 131, 139, 140}) {
                lay(x, 0, a);
                is(x.shift(1, 0, -by), length(a.shiftRight(by)));
                lies(x, 1, a.shiftRight(by));
            }
        }
    }

    private void shiftBounds() {
        Witnesshall x = office();
        is(x.shift(1, 0, 140), 0);
        is(x.shift(1, 0, -140), 0);
        x.put(0, -1);
        is(x.shift(1, 0, -140), 0);
        lies(x, 1, -1);
        noState(x, () -> x.shift(1, 0, 140));
        x.put(0, 0);
        for (int by : new int[] {-141, 141, MIN, MAX}) {
            noArgument(x, () -> x.shift(1, 0, by));
        }
    }

    private void shiftNowhere() {
        Witnesshall x = office();
        x.put(1, 1);
        for (int place : NO_PLACES) {
            for (int by : new int[] {0, 130, 141}) {
                noIndex(x, () -> x.shift(place, 1, by));
                noIndex(x, () -> x.shift(2, place, by));
            }
        }
        is(x.shift(9, 1, 1), 2);
        is(x.shift(1, 9, 1), 3);
    }

    private void shiftArgument() {
        Witnesshall x = office();
        x.put(1, 1);
        noArgument(x, () -> x.shift(0, 1, 141));
        noArgument(x, () -> x.shift(0, 0, 141));
        noArgument(x, () -> x.shift(0, 1, -141));
        noState(x, () -> x.shift(0, 1, 140));
        is(x.shift(0, 1, -140), 0);
    }

    private void shiftTooLong() {
        Witnesshall x = office();
        for (int by = 125; by <= 140; by++) {
            int times = by;
            x.put(1, 1);
            x.put(2, -1);
            x.put(3, 3);
            x.put(4, -3);
            for (int place = 1; place <= 4; place++) {
                int from = place;
                BigInteger due = at(x, place).shiftLeft(by);
                if (length(due) <= 130) {
                    is(x.shift(5, from, times), length(due));
                    lies(x, 5, due);
                } else {
                    noState(x, () -> x.shift(5, from, times));
                }
            }
        }
    }

    private void shiftLength() {
        Witnesshall x = office();
        x.put(0, 5);
        x.put(1, -8);
        for (int by = -5; by <= 100; by++) {
            is(x.shift(2, 0, by), Math.max(0, by + 3));
            is(x.shift(2, 1, by), Math.max(0, by + 3));
        }
    }

    private void lucasP() {
        Witnesshall x = office();
        x.put(0, 2);
        x.put(1, 1000);
        for (int p : new int[] {1, 100}) {
            x.lucas(2, p, 1, 0, 1);
            lies(x, 2, p);
        }
        for (int p : new int[] {0, 101, -1, MIN, MAX}) {
            noArgument(x, () -> x.lucas(2, p, 1, 0, 1));
        }
    }

    private void lucasQ() {
        Witnesshall x = office();
        x.put(0, 3);
        x.put(1, 1000);
        for (int q : new int[] {-100, -1, 1, 100}) {
            x.lucas(2, 11, q, 0, 1);
            lies(x, 2, 121 - q);
        }
        for (int q : new int[] {-101, 0, 101, MIN, MAX}) {
            noArgument(x, () -> x.lucas(2, 11, q, 0, 1));
        }
    }

    private void lucasNowhere() {
        Witnesshall x = office();
        x.put(1, 5);
        x.put(2, -5);
        for (int place : NO_PLACES) {
            for (int p : new int[] {1, 0}) {
                noIndex(x, () -> x.lucas(place, p, 1, 1, 1));
                noIndex(x, () -> x.lucas(3, p, 1, place, 1));
                noIndex(x, () -> x.lucas(3, p, 1, 1, place));
            }
            noIndex(x, () -> x.lucas(place, 1, 1, 2, 1));
        }
        is(x.lucas(9, 1, -1, 9, 1), 0);
        x.put(9, 7);
        is(x.lucas(0, 1, -1, 1, 9), 3);
    }

    private void lucasArguments() {
        Witnesshall x = office();
        x.put(1, -1);
        x.put(2, 5);
        noArgument(x, () -> x.lucas(3, 0, 1, 1, 2));
        noArgument(x, () -> x.lucas(3, 101, 1, 1, 0));
        noArgument(x, () -> x.lucas(3, 1, 0, 1, 2));
        noArgument(x, () -> x.lucas(3, 1, -101, 1, 2));
        noArgument(x, () -> x.lucas(3, 100, 101, 2, 2));
    }

    private void lucasBelow() {
        Witnesshall x = office();
        x.put(1, 7);
        for (BigInteger k : new BigInteger[] {ONE.negate(), big(-7), LOWEST}) {
            lay(x, 0, k);
            noState(x, () -> x.lucas(2, 1, 1, 0, 1));
            noState(x, () -> x.lucas(2, 1, 1, 0, 5));
        }
        x.put(0, 0);
        is(x.lucas(2, 1, 1, 0, 1), 0);
        x.put(0, 1);
        is(x.lucas(2, 1, 1, 0, 1), 1);
    }

    private void lucasLength() {
        Witnesshall x = office();
        x.put(1, 1000000);
        int[] fibonacci = {0, 1, 1, 2, 3, 5, 8, 13, 21, 34, 55, 89, 144, 233};
        for (int k = 0; k < fibonacci.length; k++) {
            x.put(0, k);
            is(x.lucas(2, 1, -1, 0, 1), length(big(fibonacci[k])));
        }
        x.put(1, 0);
        is(x.lucas(2, 1, -1, 0, 1), -9);
    }

    private void fetchSpots() {
        Witnesshall x = decided(2, 5);
        int paper = sought(x, 8, 11);
        int[] due = {11, 2, 2, 5};
        for (int spot = 0; spot < due.length; spot++) {
            x.fetch(1, paper, spot);
            lies(x, 1, due[spot]);
        }
        noIndex(x, () -> x.fetch(1, paper, 4));
        noIndex(x, () -> x.fetch(1, paper, -1));
        x.fetch(1, 0, 0);
        lies(x, 1, 2);
        noIndex(x, () -> x.fetch(1, 0, 1));
    }

    private void fetchNowhere() {
        Witnesshall x = decided(2, 4);
        for (int place : NO_PLACES) {
            noIndex(x, () -> x.fetch(place, 0, 0));
        }
        for (int paper : new int[] {-1, 2, 150, MIN, MAX}) {
            noIndex(x, () -> x.fetch(0, paper, 0));
        }
        for (int spot : new int[] {-1, 2, 3, 11, MIN, MAX}) {
            noIndex(x, () -> x.fetch(0, 1, spot));
        }
        is(x.fetch(9, 1, 1), 2);
        is(x.fetch(0, 1, 0), 3);
        x.undo();
        noIndex(x, () -> x.fetch(0, 1, 0));
    }

    private void fetchLength() {
        Witnesshall x = office();
        lay(x, 0, HIGHEST);
        x.sheet(0, 0);
        x.writeValue(3);
        is(x.file(), 0);
        is(x.fetch(4, 0, 0), 130);
        lies(x, 4, HIGHEST);
        is(x.fetch(4, 0, 1), 2);
        lies(x, 4, 3);
    }

    private void takeLinks() {
        Witnesshall x = begun(7);
        x.grow(0, false);
        x.grow(0, true);
        int[] due = {7, 29, 523};
        for (int k = 0; k < due.length; k++) {
            x.take(1, 0, k);
            lies(x, 1, due[k]);
        }
        noIndex(x, () -> x.take(1, 0, 3));
        noIndex(x, () -> x.take(1, 0, -1));
    }

    private void takeNowhere() {
        Witnesshall x = begun(7);
        for (int place : NO_PLACES) {
            noIndex(x, () -> x.take(place, 0, 0));
        }
        for (int chain : new int[] {-1, 1, 4, 5, MIN, MAX}) {
            noIndex(x, () -> x.take(0, chain, 0));
        }
        for (int k : new int[] {-1, 1, 7, 8, MIN, MAX}) {
            noIndex(x, () -> x.take(0, 0, k));
        }
        is(x.take(9, 0, 0), 3);
        x.undo();
        noIndex(x, () -> x.take(0, 0, 0));
    }

    private void takeLength() {
        Witnesshall x = begun(131101);
        x.grow(0, true);
        x.grow(0, true);
        x.grow(0, true);
        int[] due = {18, 34, 66, 130};
        for (int k = 0; k < due.length; k++) {
            is(x.take(0, 0, k), due[k]);
        }
        lies(x, 0, new BigInteger("682165626463486858925800776415736751239"));
    }

    // ---- promises 29 to 32

    private void deskRadix() {
        Witnesshall x = office();
        x.put(0, 35);
        is(x.desk(0, 2), "100011");
        is(x.desk(0, 36), "z");
        for (int radix : new int[] {1, 37, 0, -10, MIN, MAX}) {
            noArgument(x, () -> x.desk(0, radix));
        }
    }

    private void deskDigits() {
        Witnesshall x = office();
        x.put(0, 9);
        is(x.desk(0, 36), "9");
        x.put(0, 10);
        is(x.desk(0, 36), "a");
        is(x.desk(0, 11), "a");
        is(x.desk(0, 10), "10");
        for (BigInteger a : new BigInteger[] {HIGHEST, LOWEST, two(90).subtract(ONE), two(30), big(1679616), big(-35)}) {
            lay(x, 0, a);
            for (int radix = 2; radix <= 36; radix++) {
                is(x.desk(0, radix), a.toString(radix));
            }
        }
    }

    private void deskSigns() {
        Witnesshall x = office();
        for (int radix = 2; radix <= 36; radix++) {
            x.put(0, 0);
            is(x.desk(0, radix), "0");
            x.put(0, -1);
            is(x.desk(0, radix), "-1");
            x.put(0, 1);
            is(x.desk(0, radix), "1");
            x.put(0, -radix);
            is(x.desk(0, radix), "-10");
        }
    }

    private void deskNowhere() {
        Witnesshall x = office();
        for (int place : NO_PLACES) {
            noIndex(x, () -> x.desk(place, 10));
            noIndex(x, () -> x.desk(place, 1));
        }
        is(x.desk(9, 10), "0");
    }

    private void deskArgument() {
        Witnesshall x = office();
        for (int place = 0; place <= 9; place++) {
            int target = place;
            noArgument(x, () -> x.desk(target, 1));
            noArgument(x, () -> x.desk(target, 37));
        }
    }

    private void numberKinds() {
        Witnesshall x = decided(7, 9);
        int[][] due = {{0, 0, 0, -1, 0, -1}, {5, 1, 3, 0, 5, -1}, {-5, -1, 3, 0, 999998, -1}, {7, 1, 3, 0, 7, 1}, {9, 1, 4, 0, 9, 0},
            {-8, -1, 3, 3, 999995, -1}, {2000006, 1, 21, 1, 0, -1}};
        for (int[] row : due) {
            x.put(0, row[0]);
            for (int what = 0; what <= 4; what++) {
                is(x.number(0, what), row[what + 1]);
            }
        }
    }

    private void numberWhat() {
        Witnesshall x = office();
        for (int what : new int[] {-1, 5, MIN, MAX}) {
            noArgument(x, () -> x.number(0, what));
        }
        is(x.number(0, 0), 0);
        is(x.number(0, 4), NONE);
    }

    private void numberNowhere() {
        Witnesshall x = office();
        for (int place : NO_PLACES) {
            noIndex(x, () -> x.number(place, 0));
            noIndex(x, () -> x.number(place, 5));
        }
        is(x.number(9, 1), 0);
    }

    private void numberOfEach() {
        Witnesshall x = office();
        for (int place = 0; place <= 9; place++) {
            x.put(place, 3 * place - 13);
        }
        for (int place = 0; place <= 9; place++) {
            is(x.number(place, 0), Integer.signum(3 * place - 13));
            is(x.number(place, 1), length(big(3 * place - 13)));
            is(x.number(place, 3), Math.floorMod(3 * place - 13, 1000003));
        }
    }

    private void bitBounds() {
        Witnesshall x = office();
        x.put(0, -2);
        is(x.bit(0, 0), false);
        is(x.bit(0, 1), true);
        is(x.bit(0, 140), true);
        x.put(0, 1);
        is(x.bit(0, 0), true);
        is(x.bit(0, 140), false);
        for (int k : new int[] {-1, 141, MIN, MAX}) {
            noArgument(x, () -> x.bit(0, k));
        }
    }

    private void bitArgument() {
        Witnesshall x = office();
        for (int place = 0; place <= 9; place++) {
            int target = place;
            noArgument(x, () -> x.bit(target, -1));
            noArgument(x, () -> x.bit(target, 141));
        }
    }

    private void bitNowhere() {
        Witnesshall x = office();
        for (int place : NO_PLACES) {
            noIndex(x, () -> x.bit(place, 0));
            noIndex(x, () -> x.bit(place, 141));
        }
        is(x.bit(9, 0), false);
    }

    private void bitTold() {
        Witnesshall x = office();
        for (int value = -9; value <= 9; value++) {
            x.put(0, value);
            for (int k = 0; k <= 31; k++) {
                is(x.bit(0, k), (value >> k & 1) == 1);
            }
        }
    }

    private void compareNowhere() {
        Witnesshall x = office();
        for (int place : NO_PLACES) {
            noIndex(x, () -> x.compare(place, 0));
            noIndex(x, () -> x.compare(0, place));
            noIndex(x, () -> x.compare(place, place));
        }
        is(x.compare(9, 0), 0);
    }

    private void compareTold() {
        Witnesshall x = office();
        BigInteger[] rising = {LOWEST, two(90).negate().subtract(ONE), two(90).negate(), big(-2), ONE.negate(), BigInteger.ZERO, ONE,
            TWO, two(30).subtract(ONE), two(30), two(90), two(90).add(ONE), HIGHEST};
        for (int i = 0; i < rising.length; i++) {
            for (int j = 0; j < rising.length; j++) {
                lay(x, 0, rising[i]);
                lay(x, 1, rising[j]);
                is(x.compare(0, 1), Integer.signum(i - j));
            }
            is(x.compare(1, 1), 0);
        }
        zeros();
    }

    /** 0 is 0, whichever way it was made of numbers below 0. */
    private void zeros() {
        Witnesshall x = office();
        x.put(1, -5);
        x.put(2, 5);
        x.put(3, -6);
        x.work(4, 0, 1, 2);
        x.work(5, 1, 1, 1);
        x.work(6, 2, 1, 0);
        x.work(7, 3, 1, 3);
        x.work(8, 4, 1, 2);
        x.work(9, 5, 1, 2);
        for (int place = 4; place <= 9; place++) {
            is(x.compare(place, 0), 0);
            is(x.compare(0, place), 0);
            is(x.compare(place, 1), 1);
            lies(x, place, 0);
        }
        x.work(4, 6, 0, 4);
        is(x.compare(4, 0), 0);
        x.shift(4, 7, -3);
        is(x.compare(4, 0), 0);
    }
}
