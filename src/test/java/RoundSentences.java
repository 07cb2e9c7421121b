/** Part 2, and promises 24, 25 and 35 to 40: what is sifted, rounds, bases. */
final class RoundSentences extends Sentences {
    RoundSentences(Document document, String only) {
        super(document, only);
    }

    @Override
    void all() {
        part();
        rounds();
        bases();
        rows();
    }

    private void part() {
        String s = "part 2";
        sentence(s, "n from 2 to 1010000 is SIFTED if GCD of n and the product of all primes up to the ROOT of n is 1",
            this::siftedNumbers);
        sentence(s, "(the product of none is 1)", this::siftedByNone);
        sentence(s, "it is what trying all divisors would tell", this::siftedByTrying);
        sentence(s, "n is FIT if it is odd and at least 5.", this::fit);
        sentence(s, "b is a MOD n", this::startOfRound);
        sentence(s, "n - 1 is 2^s * t with t odd; X(0) is b^t MOD n, X(i + 1) is X(i)^2 MOD n", this::allRounds);
        sentence(s, "It is PASSED if b is 0, 1 or n - 1", this::passedAtOnce);
        sentence(s, "or if X(0) is 1", this::passedByOne);
        sentence(s, "or if one of X(0) to X(s - 1) is n - 1", this::passedByLess);
        sentence(s, "Otherwise it says POWER if X(s) is not 1 (its FINDING is b)", this::saysPower);
        sentence(s, "and ROOT if it is (its FINDING is the last of X(0) to X(s) that is not 1)", this::saysRoot);
        sentence(s, "BASES: a row of at most 6", this::sixBases);
        sentence(s, "none twice", this::noBaseTwice);
        sentence(s, "none at first", this::noBases);
    }

    private void bases() {
        sentence("promise 24", "- base: 2 to 1000", this::baseBounds);
        sentence("promise 24", "if base is not in its bounds", this::baseArgument);
        sentence("promise 24", "if there are 6", this::baseOfSix);
        sentence("promise 24", "or it is one of them", this::baseAgain);
        sentence("promise 24", "Returns how many there are then.", this::baseCount);
        sentence("promise 25", "those after it move up", this::dropMovesUp);
        sentence("promise 25", "- which: which one, from 0", this::dropFromZero);
        sentence("promise 25", "if there is no such one", this::dropNowhere);
        sentence("promise 25", "Returns that base.", this::dropTold);
    }

    private void rounds() {
        sentence("promise 35", "- base: 2 to 1000", this::roundBounds);
        sentence("promise 35", "if there is no such PLACE", this::roundNowhere);
        sentence("promise 35", "if base is not in its bounds", this::roundArgument);
        sentence("promise 35", "if the NUMBER is not FIT", this::roundUnfit);
        sentence("promise 35", "Returns of its ROUND: 0 if it is PASSED, 1 if it says POWER, 2 if it says ROOT.", this::roundTold);
        sentence("promise 36", "if there is no such PLACE", this::passesNowhere);
        sentence("promise 36", "if the NUMBER is not FIT", this::passesUnfit);
        sentence("promise 36", "Returns the sum of 2^k for each k of which the ROUND of the base k of BASES (from 0) is PASSED.",
            this::passesTold);
    }

    private void rows() {
        sentence("promise 37", "- from: 5 to 999999", this::passerBounds);
        sentence("promise 37", "if from is not in its bounds", this::passerArgument);
        sentence("promise 37", "Returns of the first 100 odd numbers from it on the least", this::passerOfHundred);
        sentence("promise 37", "that is not SIFTED, but PASSES the ROUNDS of all BASES", this::passerOfAll);
        sentence("promise 37", "NONE if there is none", this::passerNone);
        sentence("promise 38", "- from: 5 to 999999", this::passingFrom);
        sentence("promise 38", "- many: 1 to 60", this::passingMany);
        sentence("promise 38", "if from or many is not in its bounds", this::passingArguments);
        sentence("promise 38", "Returns how many of the first so many odd numbers from it on PASS the ROUNDS of all BASES.",
            this::passingTold);
        sentence("promise 39", "- value: 5 to 255", this::witnessesBounds);
        sentence("promise 39", "if value is not in its bounds", this::witnessesArgument);
        sentence("promise 39", "if it is even", this::witnessesEven);
        sentence("promise 39", "Returns how many of the bases 1 to value - 1 have a ROUND for it that is not PASSED.",
            this::witnessesTold);
        sentence("promise 40", "- value: 2 to 999999", this::siftedBounds);
        sentence("promise 40", "if value is not in its bounds", this::siftedArgument);
        sentence("promise 40", "Returns whether it is SIFTED.", this::siftedTold);
    }

    // ---- a round, as the document words it

    private static final int PASSED = 0;
    private static final int POWER = 1;
    private static final int ROOT = 2;

    /** What the ROUND of a for n says, and its FINDING (0 if it is PASSED). */
    private static int[] roundOf(long n, long a) {
        long b = a % n;
        long t = n - 1;
        int s = 0;
        while (t % 2 == 0) {
            t /= 2;
            s++;
        }
        long x = big(b).modPow(big(t), big(n)).longValue();
        if (b == 0 || b == 1 || b == n - 1 || x == 1) {
            return new int[] {PASSED, 0};
        }
        long last = x;
        for (int i = 0; i < s; i++) {
            if (x == n - 1) {
                return new int[] {PASSED, 0};
            }
            last = x == 1 ? last : x;
            x = x * x % n;
        }
        return x == 1 ? new int[] {ROOT, (int) last} : new int[] {POWER, (int) b};
    }

    private static boolean isPrime(int n) {
        return big(n).isProbablePrime(40);
    }

    private static int said(Witnesshall x, int n, int base) {
        x.put(0, n);
        return x.round(0, base);
    }

    // ---- part 2

    private void siftedNumbers() {
        Witnesshall x = office();
        for (int p : new int[] {2, 3, 5, 7, 31, 97, 499, 983, 991, 997}) {
            is(x.sifted(p), true);
            is(x.sifted(p * p), false);
        }
        is(x.sifted(991 * 997), false);
        is(x.sifted(983 * 997), false);
        is(x.sifted(2 * 499979), false);
        is(x.sifted(999983), true);
        x.base(675);
        is(x.passer(999999), 1000027);
    }

    private void siftedByNone() {
        Witnesshall x = office();
        is(x.sifted(2), true);
        is(x.sifted(3), true);
        is(x.sifted(4), false);
    }

    private void siftedByTrying() {
        Witnesshall x = office();
        for (int n = 2; n <= 2000; n++) {
            boolean isDivided = false;
            for (int d = 2; d < n; d++) {
                isDivided |= n % d == 0;
            }
            is(x.sifted(n), !isDivided);
        }
    }

    private void fit() {
        Witnesshall x = office();
        x.base(2);
        for (int n = -9; n <= 12; n++) {
            x.put(0, n);
            if (n >= 5 && n % 2 != 0) {
                is(x.round(0, 2), roundOf(n, 2)[0]);
                is(x.passes(0), roundOf(n, 2)[0] == PASSED ? 1 : 0);
                is(x.accuse(0, 2) >= 0, roundOf(n, 2)[0] != PASSED);
            } else {
                noState(x, () -> x.round(0, 2));
                noState(x, () -> x.passes(0));
                noState(x, () -> x.accuse(0, 2));
                for (int kind : new int[] {1, 2, 3, 6, 8, 9, 10}) {
                    is(x.sheet(kind, 0), 0);
                }
            }
        }
        x.make(0, 2, 129, 0);
        noState(x, () -> x.round(0, 2));
        x.make(0, 2, 129, 1);
        is(x.round(0, 2) > 0, true);
    }

    private void startOfRound() {
        Witnesshall x = office();
        for (int n : new int[] {5, 9, 15, 21, 341}) {
            for (int base = 2; base + n <= 1000; base += 7) {
                is(said(x, n, base), said(x, n, base + n));
            }
        }
        x.put(0, 9);
        is(x.accuse(0, 20), 0);
        is(x.paper(0), "9 no power 2");
    }

    private void allRounds() {
        Witnesshall x = office();
        for (int n : new int[] {5, 7, 9, 15, 17, 25, 33, 49, 65, 91, 97, 129, 193, 257, 341, 481, 513, 561, 641, 703, 769}) {
            for (int base = 2; base <= 1000; base++) {
                is(said(x, n, base), roundOf(n, base)[0]);
            }
        }
        for (int n : new int[] {999999, 999983, 1000001, 104729, 65537, 65535, 131073}) {
            for (int base = 2; base <= 60; base++) {
                is(said(x, n, base), roundOf(n, base)[0]);
            }
        }
    }

    private void passedAtOnce() {
        Witnesshall x = office();
        for (int n : new int[] {9, 15, 25, 105, 333, 499}) {
            is(said(x, n, n), PASSED);
            is(said(x, n, n + 1), PASSED);
            is(said(x, n, n - 1), PASSED);
            is(said(x, n, 2 * n - 1), PASSED);
        }
        is(said(x, 15, 13), roundOf(15, 13)[0]);
        is(said(x, 15, 13) != PASSED, true);
        is(said(x, 15, 17) != PASSED, true);
        is(said(x, 9, 3), POWER);
        is(said(x, 9, 12), POWER);
        is(said(x, 999, 1000), PASSED);
        is(said(x, 333, 1000), PASSED);
    }

    private void passedByOne() {
        Witnesshall x = office();
        is(said(x, 7, 2), PASSED);
        is(said(x, 49, 18), PASSED);
        is(said(x, 2047, 2), PASSED);
        is(said(x, 2047, 4), PASSED);
        is(said(x, 341, 4), PASSED);
        is(said(x, 73, 2), PASSED);
    }

    /** The last of X(0) to X(s - 1) counts, as does one between and the first; X(s) does not. */
    private void passedByLess() {
        Witnesshall x = office();
        is(said(x, 11, 2), PASSED);
        is(said(x, 17, 3), PASSED);
        is(said(x, 17, 2), PASSED);
        is(said(x, 17, 4), PASSED);
        is(said(x, 25, 7), PASSED);
        is(said(x, 65, 8), PASSED);
        is(said(x, 65, 57), PASSED);
        is(said(x, 257, 3), PASSED);
        is(said(x, 3277, 2), PASSED);
        int atLast = 0;
        for (int n = 9; n <= 999; n += 2) {
            if (!isPrime(n)) {
                for (int base = 2; base < n; base++) {
                    is(said(x, n, base), roundOf(n, base)[0]);
                    atLast += big(base).modPow(big(n - 1), big(n)).intValue() == n - 1 ? 1 : 0;
                }
            }
        }
        is(atLast, 0);
    }

    private void saysPower() {
        Witnesshall x = office();
        is(said(x, 9, 2), POWER);
        is(x.paper(x.accuse(0, 2)), "9 no power 2");
        is(said(x, 25, 2), POWER);
        is(x.paper(x.accuse(0, 27)), "25 no power 2");
        is(said(x, 2047, 3), POWER);
        is(x.paper(x.accuse(0, 3)), "2047 no power 3");
        is(said(x, 21, 3), POWER);
        is(x.paper(x.accuse(0, 24)), "21 no power 3");
    }

    private void saysRoot() {
        Witnesshall x = office();
        for (int n : new int[] {15, 65, 91, 341, 561, 1105, 1729, 4097}) {
            for (int base = 2; base <= 60; base++) {
                int[] due = roundOf(n, base);
                if (due[0] == ROOT) {
                    is(said(x, n, base), ROOT);
                    is(x.paper(x.accuse(0, base)), n + " no root " + due[1]);
                    x.undo();
                }
            }
        }
        x.put(0, 561);
        is(x.paper(x.accuse(0, 2)), "561 no root 67");
        x.put(0, 15);
        is(x.paper(x.accuse(0, 4)), "15 no root 4");
        x.put(0, 65);
        is(x.paper(x.accuse(0, 14)), "65 no root 14");
    }

    private void sixBases() {
        Witnesshall x = office();
        for (int k = 1; k <= 6; k++) {
            is(x.base(10 * k), k);
        }
        noState(x, () -> x.base(70));
        x.drop(5);
        is(x.base(70), 6);
        noState(x, () -> x.base(80));
    }

    private void noBaseTwice() {
        Witnesshall x = office();
        x.base(2);
        noState(x, () -> x.base(2));
        is(x.base(3), 2);
        noState(x, () -> x.base(2));
        noState(x, () -> x.base(3));
        x.drop(0);
        noState(x, () -> x.base(3));
        is(x.base(2), 2);
        x.drop(1);
        is(x.base(2), 2);
        noState(x, () -> x.base(2));
    }

    private void noBases() {
        Witnesshall x = office();
        is(x.count(8), 0);
        noIndex(x, () -> x.drop(0));
        x.put(0, 9);
        is(x.passes(0), 0);
        is(x.passing(9, 1), 1);
    }

    // ---- promises 24 and 25

    private void baseBounds() {
        Witnesshall x = office();
        is(x.base(2), 1);
        is(x.base(1000), 2);
        for (int base : new int[] {1, 1001, 0, -2, MIN, MAX}) {
            noArgument(x, () -> x.base(base));
        }
    }

    private static Witnesshall withBases(int... bases) {
        Witnesshall x = office();
        for (int base : bases) {
            x.base(base);
        }
        return x;
    }

    private void baseArgument() {
        Witnesshall x = withBases(2, 3, 5, 7, 11, 13);
        noArgument(x, () -> x.base(1));
        noArgument(x, () -> x.base(1001));
        Witnesshall y = withBases(2);
        noArgument(y, () -> y.base(1));
        noArgument(y, () -> y.base(1001));
    }

    private void baseOfSix() {
        Witnesshall x = withBases(2, 3, 5, 7, 11);
        is(x.base(13), 6);
        noState(x, () -> x.base(17));
        noState(x, () -> x.base(2));
        is(x.count(8), 6);
    }

    private void baseAgain() {
        Witnesshall x = withBases(2, 1000, 500);
        noState(x, () -> x.base(2));
        noState(x, () -> x.base(1000));
        noState(x, () -> x.base(500));
        is(x.base(501), 4);
    }

    private void baseCount() {
        Witnesshall x = office();
        is(x.base(9), 1);
        is(x.base(8), 2);
        x.drop(0);
        is(x.base(9), 2);
        is(x.count(8), 2);
    }

    private void dropMovesUp() {
        Witnesshall x = withBases(2, 3, 5, 7, 11, 13);
        is(x.drop(2), 5);
        int[] due = {2, 3, 7, 11, 13};
        for (int base : due) {
            is(x.drop(0), base);
        }
        Witnesshall y = withBases(3, 2, 8);
        y.put(0, 2047);
        is(y.passes(0), 2 + 4);
        y.drop(0);
        is(y.passes(0), 1 + 2);
    }

    private void dropFromZero() {
        Witnesshall x = withBases(2, 3, 5);
        is(x.drop(2), 5);
        is(x.drop(0), 2);
        is(x.drop(0), 3);
    }

    private void dropNowhere() {
        Witnesshall x = withBases(2, 3, 5, 7, 11, 13);
        for (int which : new int[] {-1, 6, MIN, MAX}) {
            noIndex(x, () -> x.drop(which));
        }
        x.drop(5);
        noIndex(x, () -> x.drop(5));
        is(x.drop(4), 11);
        Witnesshall none = office();
        noIndex(none, () -> none.drop(0));
    }

    private void dropTold() {
        int[] bases = {1000, 2, 999, 3};
        for (int which = 0; which < bases.length; which++) {
            Witnesshall x = withBases(bases);
            is(x.drop(which), bases[which]);
            is(x.count(8), 3);
        }
    }

    // ---- promises 35 and 36

    private void roundBounds() {
        Witnesshall x = office();
        x.put(0, 2047);
        is(x.round(0, 2), PASSED);
        is(x.round(0, 1000), roundOf(2047, 1000)[0]);
        for (int base : new int[] {1, 1001, 0, -2, MIN, MAX}) {
            noArgument(x, () -> x.round(0, base));
        }
    }

    private void roundNowhere() {
        Witnesshall x = office();
        for (int place : NO_PLACES) {
            noIndex(x, () -> x.round(place, 2));
            noIndex(x, () -> x.round(place, 1));
        }
        x.put(9, 7);
        is(x.round(9, 2), PASSED);
    }

    private void roundArgument() {
        Witnesshall x = office();
        noArgument(x, () -> x.round(0, 1));
        noArgument(x, () -> x.round(0, 1001));
        x.put(0, 7);
        noArgument(x, () -> x.round(0, 1));
        noArgument(x, () -> x.round(0, 1001));
    }

    private void roundUnfit() {
        Witnesshall x = office();
        for (int n : new int[] {3, 4, 6, 2, 1, 0, -1, -5, -7, 1000, MIN}) {
            x.put(0, n);
            noState(x, () -> x.round(0, 2));
        }
        x.put(0, 5);
        is(x.round(0, 2), PASSED);
        x.put(0, 7);
        is(x.round(0, 2), PASSED);
    }

    private void roundTold() {
        Witnesshall x = office();
        x.put(0, 341);
        is(x.round(0, 4), 0);
        is(x.round(0, 3), 1);
        is(x.round(0, 2), 2);
    }

    private void passesNowhere() {
        Witnesshall x = withBases(2);
        for (int place : NO_PLACES) {
            noIndex(x, () -> x.passes(place));
        }
        x.put(9, 7);
        is(x.passes(9), 1);
    }

    private void passesUnfit() {
        for (Witnesshall x : new Witnesshall[] {office(), withBases(2, 3)}) {
            for (int n : new int[] {3, 4, 6, 1, 0, -5}) {
                x.put(0, n);
                noState(x, () -> x.passes(0));
            }
            x.put(0, 5);
            is(x.passes(0), x.count(8) == 0 ? 0 : 3);
        }
    }

    private void passesTold() {
        Witnesshall x = withBases(2, 3, 4, 8, 5, 64);
        x.put(0, 2047);
        is(x.passes(0), 1 + 4 + 8 + 32);
        x.put(0, 7);
        is(x.passes(0), 63);
        x.put(0, 9);
        int due = 0;
        int[] bases = {2, 3, 4, 8, 5, 64};
        for (int k = 0; k < 6; k++) {
            due += roundOf(9, bases[k])[0] == PASSED ? 1 << k : 0;
        }
        is(x.passes(0), due);
        Witnesshall none = office();
        none.put(0, 9);
        is(none.passes(0), 0);
    }

    // ---- promises 37 to 40

    private void passerBounds() {
        Witnesshall x = office();
        is(x.passer(5), 9);
        is(x.passer(999999), 999999);
        x.base(2);
        is(x.passer(999999), NONE);
        for (int from : new int[] {4, 1000000, 3, 0, -9, MIN, MAX}) {
            noArgument(x, () -> x.passer(from));
        }
    }

    private void passerArgument() {
        Witnesshall x = withBases(2, 3);
        noArgument(x, () -> x.passer(4));
        noArgument(x, () -> x.passer(1000000));
    }

    private void passerOfHundred() {
        Witnesshall x = withBases(2);
        is(x.passer(2047 - 198), 2047);
        is(x.passer(2047 - 199), 2047);
        is(x.passer(2047 - 200), NONE);
        is(x.passer(2047), 2047);
        is(x.passer(2046), 2047);
        is(x.passer(2048), NONE);
        Witnesshall last = withBases(675);
        is(last.passer(1000027 - 28), 1000027);
        is(office().passer(10), 15);
        is(office().passer(9), 9);
    }

    private void passerOfAll() {
        Witnesshall x = withBases(2);
        is(x.passer(2040), 2047);
        x.base(3);
        is(x.passer(2040), NONE);
        is(withBases(3, 2).passer(2040), NONE);
        x.drop(1);
        is(x.passer(2040), 2047);
        x.base(4);
        is(x.passer(2040), 2047);
        is(withBases(2, 4, 8, 16, 32, 64).passer(2040), 2047);
        is(withBases(2, 4, 8, 16, 32, 3).passer(2040), NONE);
        is(office().passer(25), 25);
        is(office().passer(23), 25);
        for (int base : new int[] {7, 18, 32}) {
            Witnesshall y = withBases(base);
            for (int from = 5; from < 400; from += 9) {
                int last = (from | 1) + 198;
                int due = from | 1;
                while (due <= last && (isPrime(due) || roundOf(due, base)[0] != PASSED)) {
                    due += 2;
                }
                is(y.passer(from), due <= last ? due : NONE);
            }
        }
    }

    private void passerNone() {
        is(withBases(2).passer(5), NONE);
        is(withBases(2, 3).passer(2047), NONE);
    }

    private void passingFrom() {
        Witnesshall x = office();
        is(x.passing(5, 1), 1);
        is(x.passing(999999, 60), 60);
        x.base(2);
        is(x.passing(999999, 60), 7);
        is(x.passing(999999, 3), 1);
        for (int from : new int[] {4, 1000000, 3, 0, -9, MIN, MAX}) {
            noArgument(x, () -> x.passing(from, 1));
        }
    }

    private void passingMany() {
        Witnesshall x = office();
        for (int many = 1; many <= 60; many++) {
            is(x.passing(9, many), many);
        }
        for (int many : new int[] {0, 61, -1, MIN, MAX}) {
            noArgument(x, () -> x.passing(9, many));
        }
    }

    private void passingArguments() {
        Witnesshall x = withBases(2);
        noArgument(x, () -> x.passing(4, 60));
        noArgument(x, () -> x.passing(1000000, 1));
        noArgument(x, () -> x.passing(5, 0));
        noArgument(x, () -> x.passing(999999, 61));
    }

    private void passingTold() {
        Witnesshall x = withBases(2);
        is(x.passing(2045, 1), 0);
        is(x.passing(2045, 2), 1);
        is(x.passing(2046, 1), 1);
        is(x.passing(2047, 1), 1);
        is(withBases(2, 4, 8, 16, 32, 64).passing(2046, 1), 1);
        is(withBases(2, 4, 8, 16, 32, 3).passing(2046, 1), 0);
        x.base(3);
        is(x.passing(2046, 1), 0);
        x.drop(1);
        is(x.passing(2046, 1), 1);
        x.base(3);
        for (int from = 5; from < 300; from += 7) {
            int due = 0;
            for (int i = 0; i < 60; i++) {
                int n = (from | 1) + 2 * i;
                due += roundOf(n, 2)[0] == PASSED && roundOf(n, 3)[0] == PASSED ? 1 : 0;
            }
            is(x.passing(from, 60), due);
        }
    }

    private void witnessesBounds() {
        Witnesshall x = office();
        is(x.witnesses(5), 0);
        is(x.witnesses(7), 0);
        is(x.witnesses(9), 6);
        is(x.witnesses(255) > 0, true);
        is(x.witnesses(253) > 0, true);
        for (int value : new int[] {4, 256, 3, 257, 0, -5, MIN, MAX}) {
            noArgument(x, () -> x.witnesses(value));
        }
    }

    private void witnessesArgument() {
        Witnesshall x = office();
        noArgument(x, () -> x.witnesses(4));
        noArgument(x, () -> x.witnesses(256));
    }

    private void witnessesEven() {
        Witnesshall x = office();
        for (int value = 6; value <= 254; value += 2) {
            int even = value;
            noState(x, () -> x.witnesses(even));
        }
    }

    private void witnessesTold() {
        Witnesshall x = office();
        for (int n = 5; n <= 255; n += 2) {
            int due = 0;
            for (int base = 1; base <= n - 1; base++) {
                due += roundOf(n, base)[0] == PASSED ? 0 : 1;
            }
            is(x.witnesses(n), due);
        }
    }

    private void siftedBounds() {
        Witnesshall x = office();
        is(x.sifted(2), true);
        is(x.sifted(999999), false);
        for (int value : new int[] {1, 1000000, 0, -2, MIN, MAX}) {
            noArgument(x, () -> x.sifted(value));
        }
    }

    private void siftedArgument() {
        Witnesshall x = decided(2, 3);
        noArgument(x, () -> x.sifted(1));
        noArgument(x, () -> x.sifted(1000000));
        noArgument(x, () -> x.sifted(1000003));
    }

    private void siftedTold() {
        Witnesshall x = office();
        for (int n = 2; n <= 5000; n++) {
            is(x.sifted(n), isPrime(n));
        }
        for (int n = 995000; n <= 999999; n++) {
            is(x.sifted(n), isPrime(n));
        }
    }
}
