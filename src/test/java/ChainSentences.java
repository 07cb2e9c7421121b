import java.math.BigInteger;

/** Parts 6 and 7, and promises 23, 26 to 28 and 48 to 52: chains, undoing, and what is asked of the whole. */
final class ChainSentences extends Sentences {
    ChainSentences(Document document, String only) {
        super(document, only);
    }

    @Override
    void all() {
        chains();
        undoing();
        chainCalls();
        chainAsking();
        wholeAsking();
    }

    private void chains() {
        String s = "part 6";
        sentence(s, "At most 5 CHAINS, numbered from 0", this::fiveChains);
        sentence(s, "each of at most 8 NUMBERS", this::eightNumbers);
        sentence(s, "it begins with an odd one that IS YES", this::beginsWithYes);
        sentence(s, "by a step k from 1 to 60", this::steps);
        sentence(s, "with h of 0, or, if it is fast, of p / 4 rounded down, n is 2 * (h + k) * p + 1", this::fastSteps);
        sentence(s, "the least k is taken for which n is WITHIN", this::growWithin);
        sentence(s, "the SHEET of KIND 9 for n with the ROW 2, p has no FAULT", this::growWithoutFault);
        sentence(s, "That SHEET is taken as a PAPER, but if n has a HELD one of KIND 9, it is not", this::growOfHeld);
        sentence(s, "n is the last of the CHAIN then", this::growLast);
        sentence(s, "The SAFE part of a CHAIN: as many NUMBERS from its first on as ARE YES without a break.", this::safePart);
    }

    private void undoing() {
        String s = "part 7";
        sentence(s, "An ENTRY is a call that took PAPERS, withdrew one, gave one back, or let a CHAIN begin or grow.", this::entries);
        sentence(s, "Undoing the last ENTRY takes back just what it did to PAPERS and CHAINS", this::takesBack);
        sentence(s, "(not the DESK, the SHEET or BASES", this::leavesDesk);
        sentence(s, "PAPERS that were taken are gone, the next ones get their numbers", this::numbersAgain);
        sentence(s, "that ENTRY is gone then", this::entryIsGone);
        sentence(s, "Of more than 30 ENTRIES the oldest are forgotten.", this::thirtyEntries);
        sentence("promise 23", "if there is none", this::undoNothing);
        sentence("promise 23", "Returns how many PAPERS there are then.", this::undoTold);
    }

    private void chainCalls() {
        sentence("promise 26", "if there is no such PLACE", this::beginNowhere);
        sentence("promise 26", "if there are 5", this::beginSixth);
        sentence("promise 26", "or the NUMBER is even", this::beginEven);
        sentence("promise 26", "or it is not so that it IS YES", this::beginUnproved);
        sentence("promise 26", "Returns the number of the CHAIN.", this::beginTold);
        sentence("promise 27", "if there is no such CHAIN", this::growNowhere);
        sentence("promise 27", "if it has 8 NUMBERS", this::growNinth);
        sentence("promise 27", "or it is not so that its last IS YES", this::growUnproved);
        sentence("promise 27", "or there is no room for what is to be taken", this::growWithoutRoom);
        sentence("promise 27", "Returns the step k, or NONE, if there is none", this::growTold);
        sentence("promise 27", "(nothing is changed then)", this::growChangesNothing);
        sentence("promise 28", "Returns how many were REFUSED ever, with this.", this::knockTold);
    }

    private void chainAsking() {
        sentence("promise 48", "- k: which NUMBER of it, from 0", this::linkFromZero);
        sentence("promise 48", "if there is no such CHAIN, or k is not one of it", this::linkNowhere);
        sentence("promise 48", "Returns that, in tens.", this::linkTold);
        sentence("promise 49", "- what: 0 how many NUMBERS", this::ofChainNumbers);
        sentence("promise 49", "1 how many in its SAFE part", this::ofChainSafe);
        sentence("promise 49", "2 LENGTH of its last, 3 FOLD of its last", this::ofChainLast);
        sentence("promise 49", "if there is no such CHAIN", this::ofChainNowhere);
        sentence("promise 49", "if what is not 0 to 3", this::ofChainWhat);
        sentence("promise 49", "Returns that.", this::ofChainTold);
    }

    private void wholeAsking() {
        sentence("promise 50", "- what: how many: 0 PAPERS, 1 TRUSTED ones, 2 WITHDRAWN ones, 3 LOOSE ones", this::countPapers);
        sentence("promise 50", "4 NUMBERS with a PAPER (WITHDRAWN or not), 5 NUMBERS that ARE YES", this::countNumbers);
        sentence("promise 50", "6 CHAINS, 7 ENTRIES, 8 BASES, 9 REFUSED", this::countOthers);
        sentence("promise 50", "if what is not 0 to 9", this::countWhat);
        sentence("promise 50", "Returns that.", this::countTold);
        sentence("promise 51", "Returns whether all of this is so: no NUMBER has a PAPER for YES and one for NO", this::soundVerdicts);
        sentence("promise 51", "one of no more than 999999 with a PAPER is SIFTED just if that is for YES; a greater one with a PAPER "
            + "for YES PASSES the ROUND of 2", this::soundBounds);
        sentence("promise 51", "each PAPER is TRUSTED just if it is HELD and each NUMBER that it HANGS on is less than its own and has a "
            + "TRUSTED PAPER for YES", this::soundPapers);
        sentence("promise 51", "in a CHAIN twice each NUMBER divides the one after it less 1", this::soundChains);
        sentence("promise 52", "which wraps around as a 64-bit integer", this::digestWraps);
        sentence("promise 52", "A number d starts with 5601; then d becomes d * 31 + v", this::digestOfNew);
        sentence("promise 52", "for each v in this order", this::digestOrder);
        sentence("promise 52", "Returns d.", this::digestTold);
    }

    // ---- part 6

    private void fiveChains() {
        Witnesshall x = decided(3, 5, 7, 11, 13, 17);
        int[] primes = {3, 5, 7, 11, 13, 17};
        for (int chain = 0; chain < 5; chain++) {
            x.put(0, primes[chain]);
            is(x.begin(0), chain);
        }
        x.put(0, 17);
        noState(x, () -> x.begin(0));
        for (int chain = 0; chain < 5; chain++) {
            is(x.link(chain, 0), String.valueOf(primes[chain]));
        }
        x.undo();
        is(x.begin(0), 4);
        is(x.link(4, 0), "17");
        noState(x, () -> x.begin(0));
    }

    private void eightNumbers() {
        Witnesshall x = begun(7);
        for (int k = 1; k <= 7; k++) {
            is(x.ofChain(0, 0), k);
            is(x.grow(0, false) > 0, true);
        }
        is(x.ofChain(0, 0), 8);
        noState(x, () -> x.grow(0, false));
        noState(x, () -> x.grow(0, true));
        x.undo();
        is(x.grow(0, false) > 0, true);
        noState(x, () -> x.grow(0, false));
        x.begin(0);
        is(x.grow(1, false), 2);
    }

    private void beginsWithYes() {
        Witnesshall x = decided(2, 3, 9);
        for (int n : new int[] {2, 9, 5, 4, 1, 0, -3}) {
            x.put(0, n);
            noState(x, () -> x.begin(0));
        }
        x.put(0, 3);
        is(x.begin(0), 0);
        x.withdraw(1);
        noState(x, () -> x.begin(0));
        is(x.link(0, 0), "3");
    }

    private void steps() {
        is(begun(3).grow(0, false), 1);
        is(begun(11).grow(0, false), 1);
        is(begun(729271).grow(0, false), 60);
        is(begun(897103).grow(0, false), 60);
        is(begun(470941).grow(0, false), 59);
        is(begun(374909).grow(0, false), NONE);
        is(begun(644999).grow(0, false), NONE);
        is(begun(3).grow(0, true), 1);
        is(begun(9133).grow(0, true), 60);
        is(begun(24337).grow(0, true), 59);
        is(begun(56443).grow(0, true), NONE);
    }

    /** The number of the chain that grows by k. */
    private static BigInteger grown(BigInteger p, int k, boolean isFast) {
        BigInteger h = isFast ? p.divide(big(4)) : BigInteger.ZERO;
        return h.add(big(k)).multiply(p).multiply(TWO).add(ONE);
    }

    private void fastSteps() {
        int[][] due = {{3, 1, 7}, {5, 2, 31}, {7, 1, 29}, {11, 1, 67}};
        for (int[] row : due) {
            Witnesshall x = begun(row[0]);
            is(x.grow(0, true), row[1]);
            is(x.link(0, 1), String.valueOf(row[2]));
        }
        for (int p : new int[] {3, 5, 7, 11, 13, 101, 999983, 729271}) {
            for (boolean isFast : new boolean[] {false, true}) {
                Witnesshall x = begun(p);
                int k = x.grow(0, isFast);
                is(k >= 1, true);
                is(x.link(0, 1), grown(big(p), k, isFast).toString());
            }
        }
    }

    private void growWithin() {
        Witnesshall x = begun(131101);
        is(x.grow(0, true), 5);
        is(x.grow(0, true), 54);
        is(x.grow(0, true), 9);
        is(x.ofChain(0, 2), 130);
        isQuietly(x, () -> x.grow(0, true), NONE);
        Witnesshall y = begun(143053);
        is(y.grow(0, true), 8);
        is(y.grow(0, true), 16);
        is(length(grown(new BigInteger(y.link(0, 2)), 2, true)), 131);
        is(grown(new BigInteger(y.link(0, 2)), 2, true).isProbablePrime(40), true);
        isQuietly(y, () -> y.grow(0, true), NONE);
        Witnesshall z = office();
        z.make(0, 2, 127, -1);
        z.seek(11, 0);
        z.begin(0);
        is(grown(two(127).subtract(ONE), 57, false).isProbablePrime(40), true);
        isQuietly(z, () -> z.grow(0, false), NONE);
        isQuietly(z, () -> z.grow(0, true), NONE);
    }

    /** Whether the SHEET of KIND 9 for n with the ROW 2, p has no FAULT; p is a prime. */
    private static boolean isGrown(BigInteger n, BigInteger p) {
        BigInteger less = n.subtract(ONE);
        BigInteger f = ONE;
        while (less.mod(f.multiply(p)).signum() == 0) {
            f = f.multiply(p);
        }
        return n.compareTo(big(5)) >= 0 && TWO.modPow(less, n).equals(ONE)
            && TWO.modPow(less.divide(p), n).subtract(ONE).gcd(n).equals(ONE) && f.add(ONE).pow(2).compareTo(n) > 0;
    }

    private void growWithoutFault() {
        for (int p : new int[] {3, 5, 7, 11, 13, 17, 19, 23, 29, 31, 37, 41, 43, 101, 127, 257, 509}) {
            for (boolean isFast : new boolean[] {false, true}) {
                int due = NONE;
                for (int k = 60; k >= 1; k--) {
                    due = isGrown(grown(big(p), k, isFast), big(p)) ? k : due;
                }
                Witnesshall x = begun(p);
                is(x.grow(0, isFast), due);
                if (due != NONE) {
                    is(x.paper(x.count(0) - 1), x.link(0, 1) + " yes part 2 " + p);
                }
            }
        }
    }

    private void growOfHeld() {
        Witnesshall x = decided(7, 29);
        x.put(0, 7);
        x.begin(0);
        is(x.grow(0, false), 2);
        is(x.paper(2), "29 yes part 2 7");
        x.begin(0);
        is(x.grow(1, false), 2);
        is(x.count(0), 3);
        is(x.count(7), 6);
        x.withdraw(2);
        x.begin(0);
        is(x.grow(2, false), 2);
        is(x.count(0), 4);
        is(x.paper(3), "29 yes part 2 7");
        x.withdraw(3);
        is(sought(x, 9, 29), 4);
        x.put(0, 7);
        x.begin(0);
        is(x.grow(3, false), 2);
        is(x.count(0), 5);
        growOfLoose();
    }

    /** A LOOSE paper is HELD: the last of the chain is not so that it IS YES then. */
    private void growOfLoose() {
        Witnesshall x = decided(2, 7);
        is(filed(x, 9, 29, 2, 2, 7), 2);
        x.withdraw(0);
        x.put(0, 7);
        x.begin(0);
        is(x.grow(0, false), 2);
        is(x.count(0), 3);
        is(x.link(0, 1), "29");
        is(x.ofChain(0, 1), 1);
        noState(x, () -> x.grow(0, false));
        x.restore(0);
        is(x.ofChain(0, 1), 2);
        is(x.grow(0, true), 2);
        is(x.paper(3), "523 yes part 2 29");
    }

    private void growLast() {
        Witnesshall x = begun(7);
        x.grow(0, false);
        is(x.link(0, 1), "29");
        is(x.ofChain(0, 3), 29);
        x.grow(0, true);
        is(x.link(0, 2), "523");
        is(x.ofChain(0, 3), 523);
        is(x.link(0, 0), "7");
        is(x.link(0, 1), "29");
    }

    private void safePart() {
        Witnesshall x = begun(7);
        for (int i = 0; i < 4; i++) {
            x.grow(0, false);
        }
        is(x.ofChain(0, 1), 5);
        x.withdraw(4);
        is(x.ofChain(0, 1), 4);
        x.withdraw(2);
        is(x.ofChain(0, 1), 2);
        x.restore(4);
        is(x.ofChain(0, 1), 2);
        x.withdraw(0);
        is(x.ofChain(0, 1), 0);
        is(x.ofChain(0, 0), 5);
        x.restore(2);
        x.restore(0);
        is(x.ofChain(0, 1), 5);
        x.withdraw(0);
        x.put(0, 29);
        x.seek(7, 0);
        is(verdict(x, 29), 1);
        is(x.ofChain(0, 1), 0);
    }

    // ---- part 7

    private void entries() {
        Witnesshall x = office();
        int[] due = new int[1];
        isEntry(x, due, true, () -> x.decide(2));
        isEntry(x, due, true, () -> x.decide(1009));
        isEntry(x, due, true, () -> x.next(10));
        isEntry(x, due, true, () -> sought(x, 8, 11));
        x.put(0, 341);
        isEntry(x, due, true, () -> x.accuse(0, 2));
        isEntry(x, due, true, () -> filed(x, 0, 15, 3));
        isEntry(x, due, true, () -> x.withdraw(0));
        isEntry(x, due, true, () -> x.restore(0));
        x.put(0, 7);
        isEntry(x, due, true, () -> x.begin(0));
        isEntry(x, due, true, () -> x.grow(0, false));
        x.begin(0);
        due[0]++;
        isEntry(x, due, true, () -> x.grow(1, false));
        isEntry(x, due, false, () -> x.decide(1009));
        isEntry(x, due, false, () -> x.next(10));
        isEntry(x, due, false, () -> sought(x, 8, 11));
        isEntry(x, due, false, () -> sought(x, 6, 15));
        x.put(0, 341);
        isEntry(x, due, false, () -> x.accuse(0, 2));
        isEntry(x, due, false, () -> x.accuse(0, 4));
        isEntry(x, due, false, () -> filed(x, 0, 21, 4));
        isEntry(x, due, false, () -> x.put(0, 5) + x.make(1, 2, 3, 4) + x.work(1, 0, 0, 1) + x.shift(2, 1, 1));
        isEntry(x, due, false, () -> x.sheet(0, 0) + x.write(0) + x.writeValue(1) + x.strike());
        isEntry(x, due, false, () -> x.base(5) + x.drop(0) + x.knock());
        isEntry(x, due, false, () -> whole(x));
    }

    private interface Deed {
        Object done();
    }

    private void isEntry(Witnesshall x, int[] before, boolean isOne, Deed deed) {
        deed.done();
        before[0] += isOne ? 1 : 0;
        is(x.count(7), before[0]);
    }

    private void takesBack() {
        Witnesshall x = office();
        String[] states = new String[20];
        Deed[] deeds = {() -> x.decide(2), () -> x.decide(999983), () -> x.next(89), () -> sought(x, 8, 29), () -> filed(x, 0, 15, 3),
            () -> x.withdraw(0), () -> x.withdraw(3), () -> x.restore(0), () -> x.restore(3), () -> begunAt(x, 7), () -> x.grow(0, false),
            () -> x.grow(0, true), () -> begunAt(x, 7), () -> x.grow(1, false), () -> x.withdraw(2)};
        for (int i = 0; i < deeds.length; i++) {
            states[i] = papersAndChains(x);
            deeds[i].done();
            is(states[i].equals(papersAndChains(x)), false);
            is(x.count(7), i + 1);
        }
        for (int i = deeds.length - 1; i >= 0; i--) {
            x.undo();
            is(papersAndChains(x), states[i]);
        }
        noState(x, () -> x.undo());
    }

    private static int begunAt(Witnesshall x, int prime) {
        x.put(0, prime);
        return x.begin(0);
    }

    private static String papersAndChains(Witnesshall x) {
        StringBuilder all = new StringBuilder();
        for (int paper = 0; paper < x.count(0); paper++) {
            all.append(x.paper(paper)).append(' ').append(x.ofPaper(paper, 2)).append(' ').append(x.under(paper)).append('\n');
        }
        for (int chain = 0; chain < x.count(6); chain++) {
            for (int k = 0; k < x.ofChain(chain, 0); k++) {
                all.append(x.link(chain, k)).append(' ');
            }
            all.append(x.ofChain(chain, 1)).append('\n');
        }
        return all.append(x.span(0, 1000000, 0)).append(' ').append(x.count(7)).toString();
    }

    private void leavesDesk() {
        Witnesshall x = office();
        faultOf(x, 0, 15, 3);
        x.file();
        x.put(1, 77);
        x.base(5);
        x.knock();
        faultOf(x, 8, 11, 2);
        x.undo();
        is(x.desk(1, 10), "77");
        is(x.desk(0, 10), "11");
        is(x.sheetText(), "11 yes full 2");
        is(x.count(8), 1);
        is(x.count(9), 1);
        is(x.drop(0), 5);
        faultOf(x, 0, 15, 3);
        x.file();
        x.undo();
        is(x.sheetText(), "");
        is(x.count(0), 0);
    }

    private void numbersAgain() {
        Witnesshall x = decided(2, 3);
        is(x.decide(999983), 6);
        is(x.undo(), 2);
        noIndex(x, () -> x.paper(2));
        noIndex(x, () -> x.ofPaper(2, 0));
        noIndex(x, () -> x.withdraw(2));
        is(verdict(x, 6329), NONE);
        is(x.decide(9), 2);
        is(x.paper(2), "9 no divisor 3");
        is(x.ofPaper(2, 4), 0);
        is(x.decide(999983), 7);
        is(x.under(7), "2 7 79 113 6329");
        x.undo();
        is(x.decide(5), 3);
        is(x.under(3), "");
    }

    private void entryIsGone() {
        Witnesshall x = decided(2, 3, 5);
        is(x.count(7), 3);
        x.undo();
        is(x.count(7), 2);
        x.undo();
        is(x.count(7), 1);
        x.decide(7);
        is(x.count(7), 2);
        x.undo();
        x.undo();
        is(x.count(7), 0);
        noState(x, () -> x.undo());
    }

    private void thirtyEntries() {
        Witnesshall x = office();
        for (int n = 2; n <= 31; n++) {
            x.decide(n);
        }
        is(x.count(7), 30);
        x.decide(32);
        is(x.count(7), 30);
        for (int left = 30; left >= 1; left--) {
            is(x.undo(), left);
            is(x.count(7), left - 1);
        }
        noState(x, () -> x.undo());
        is(x.paper(0), "2 yes small");
        Witnesshall y = decided(999983);
        y.put(0, 79);
        y.begin(0);
        y.grow(0, false);
        for (int i = 0; i < 14; i++) {
            y.withdraw(0);
            y.restore(0);
        }
        is(y.count(7), 30);
        y.withdraw(1);
        is(y.count(7), 30);
        for (int i = 0; i < 28; i++) {
            y.undo();
        }
        y.undo();
        is(y.ofChain(0, 0), 2);
        is(y.ofPaper(0, 2), 2);
        is(y.ofPaper(1, 2), 2);
        is(y.undo(), 6);
        is(y.ofChain(0, 0), 1);
        is(y.count(7), 0);
        noState(y, () -> y.undo());
        y.decide(4);
        is(y.count(7), 1);
        is(y.undo(), 6);
    }

    private void undoNothing() {
        Witnesshall x = office();
        noState(x, () -> x.undo());
        x.put(0, 15);
        x.sheet(0, 0);
        x.base(2);
        x.knock();
        noState(x, () -> x.undo());
        x.decide(2);
        is(x.undo(), 0);
        noState(x, () -> x.undo());
    }

    private void undoTold() {
        Witnesshall x = decided(2, 1009, 15);
        x.withdraw(0);
        x.restore(0);
        begunAt(x, 3);
        is(x.undo(), 5);
        is(x.undo(), 5);
        is(x.undo(), 5);
        is(x.undo(), 4);
        is(x.undo(), 1);
        is(x.undo(), 0);
    }

    // ---- promises 26 to 28

    private void beginNowhere() {
        Witnesshall x = decided(7);
        for (int place : NO_PLACES) {
            noIndex(x, () -> x.begin(place));
        }
        x.put(9, 7);
        for (int i = 0; i < 5; i++) {
            is(x.begin(9), i);
        }
        for (int place : NO_PLACES) {
            noIndex(x, () -> x.begin(place));
        }
    }

    private void beginSixth() {
        Witnesshall x = decided(3);
        x.put(0, 3);
        for (int i = 0; i < 5; i++) {
            is(x.begin(0), i);
        }
        noState(x, () -> x.begin(0));
        is(x.count(6), 5);
    }

    private void beginEven() {
        Witnesshall x = decided(2, 3, 4);
        x.put(0, 2);
        is(x.number(0, 4), 1);
        noState(x, () -> x.begin(0));
        x.put(0, 4);
        noState(x, () -> x.begin(0));
        x.put(0, 3);
        is(x.begin(0), 0);
    }

    private void beginUnproved() {
        Witnesshall x = decided(9);
        for (int n : new int[] {9, 7, 11, -3, 1}) {
            x.put(0, n);
            noState(x, () -> x.begin(0));
        }
        x.decide(7);
        x.put(0, 7);
        is(x.begin(0), 0);
        x.withdraw(1);
        noState(x, () -> x.begin(0));
        is(sought(x, 8, 7), 4);
        is(x.begin(0), 1);
        x.withdraw(2);
        is(x.ofPaper(4, 2), 1);
        noState(x, () -> x.begin(0));
    }

    private void beginTold() {
        Witnesshall x = decided(7, 11);
        is(begunAt(x, 7), 0);
        is(begunAt(x, 7), 1);
        is(begunAt(x, 11), 2);
        x.undo();
        is(begunAt(x, 7), 2);
        x.put(0, 0);
        is(x.link(2, 0), "7");
    }

    private void growNowhere() {
        Witnesshall x = decided(7);
        noIndex(x, () -> x.grow(0, false));
        begunAt(x, 7);
        for (int chain : new int[] {-1, 1, 4, 5, MIN, MAX}) {
            noIndex(x, () -> x.grow(chain, false));
            noIndex(x, () -> x.grow(chain, true));
        }
        x.withdraw(0);
        noIndex(x, () -> x.grow(1, false));
    }

    private void growNinth() {
        Witnesshall x = begun(11);
        for (int k = 2; k <= 8; k++) {
            is(x.grow(0, false) > 0, true);
            is(x.ofChain(0, 0), k);
        }
        noState(x, () -> x.grow(0, false));
        noState(x, () -> x.grow(0, true));
        is(x.ofChain(0, 0), 8);
    }

    private void growUnproved() {
        Witnesshall x = begun(7);
        x.grow(0, false);
        x.withdraw(1);
        noState(x, () -> x.grow(0, false));
        x.restore(1);
        x.withdraw(0);
        is(x.ofPaper(1, 2), 1);
        noState(x, () -> x.grow(0, true));
        x.put(0, 29);
        x.seek(7, 0);
        is(x.ofChain(0, 1), 0);
        is(x.grow(0, true), 2);
    }

    private void growWithoutRoom() {
        Witnesshall x = filled(149);
        begunAt(x, 7);
        begunAt(x, 7);
        is(x.grow(0, false), 2);
        is(x.count(0), 150);
        noState(x, () -> x.grow(0, false));
        is(x.grow(1, false), 2);
        noState(x, () -> x.grow(1, true));
        is(x.ofChain(0, 0), 2);
        is(x.ofChain(1, 0), 2);
        Witnesshall y = filled(149);
        y.make(0, 2, 127, -1);
        y.seek(11, 0);
        y.begin(0);
        is(y.count(0), 150);
        isQuietly(y, () -> y.grow(0, false), NONE);
    }

    private void growTold() {
        Witnesshall x = begun(7);
        is(x.grow(0, false), 2);
        is(x.grow(0, true), 2);
        is(begun(3).grow(0, false), 1);
        is(begun(729271).grow(0, false), 60);
        is(begun(374909).grow(0, false), NONE);
    }

    private void growChangesNothing() {
        Witnesshall x = begun(374909);
        isQuietly(x, () -> x.grow(0, false), NONE);
        is(x.ofChain(0, 0), 1);
        int entries = x.count(7);
        is(x.grow(0, true) > 0, true);
        is(x.count(7), entries + 1);
        Witnesshall y = begun(56443);
        isQuietly(y, () -> y.grow(0, true), NONE);
    }

    private void knockTold() {
        Witnesshall x = office();
        for (int i = 1; i <= 5; i++) {
            is(x.knock(), i);
        }
        noState(x, () -> x.undo());
        noArgument(x, () -> x.decide(1));
        is(x.knock(), 6);
        x.decide(2);
        x.undo();
        is(x.knock(), 7);
        is(office().knock(), 1);
    }

    // ---- promises 48 and 49

    private static Witnesshall withThree() {
        Witnesshall x = begun(7);
        x.grow(0, false);
        x.grow(0, true);
        return x;
    }

    private void linkFromZero() {
        Witnesshall x = withThree();
        is(x.link(0, 0), "7");
        is(x.link(0, 1), "29");
        is(x.link(0, 2), "523");
        noIndex(x, () -> x.link(0, 3));
        noIndex(x, () -> x.link(0, -1));
    }

    private void linkNowhere() {
        Witnesshall x = withThree();
        for (int chain : new int[] {-1, 1, 4, 5, MIN, MAX}) {
            noIndex(x, () -> x.link(chain, 0));
        }
        for (int k : new int[] {-1, 3, 7, 8, MIN, MAX}) {
            noIndex(x, () -> x.link(0, k));
        }
        x.undo();
        noIndex(x, () -> x.link(0, 2));
        Witnesshall none = office();
        noIndex(none, () -> none.link(0, 0));
    }

    private void linkTold() {
        Witnesshall x = begun(131101);
        x.grow(0, true);
        x.grow(0, true);
        x.grow(0, true);
        String[] due = {"131101", "8594981561", "36936854940925516169", "682165626463486858925800776415736751239"};
        for (int k = 0; k < due.length; k++) {
            is(x.link(0, k), due[k]);
        }
    }

    private void ofChainNumbers() {
        Witnesshall x = begun(7);
        is(x.ofChain(0, 0), 1);
        x.grow(0, false);
        is(x.ofChain(0, 0), 2);
        x.withdraw(0);
        is(x.ofChain(0, 0), 2);
    }

    private void ofChainSafe() {
        Witnesshall x = withThree();
        is(x.ofChain(0, 1), 3);
        x.withdraw(2);
        is(x.ofChain(0, 1), 2);
        x.withdraw(0);
        is(x.ofChain(0, 1), 0);
    }

    private void ofChainLast() {
        Witnesshall x = begun(131101);
        is(x.ofChain(0, 2), 18);
        is(x.ofChain(0, 3), 131101);
        x.grow(0, true);
        is(x.ofChain(0, 2), 34);
        is(x.ofChain(0, 3), (int) (8594981561L % 1000003));
        x.grow(0, true);
        x.grow(0, true);
        is(x.ofChain(0, 2), 130);
        is(x.ofChain(0, 3), new BigInteger(x.link(0, 3)).mod(big(1000003)).intValue());
    }

    private void ofChainNowhere() {
        Witnesshall x = withThree();
        for (int chain : new int[] {-1, 1, 4, 5, MIN, MAX}) {
            noIndex(x, () -> x.ofChain(chain, 0));
            noIndex(x, () -> x.ofChain(chain, 4));
            noIndex(x, () -> x.ofChain(chain, -1));
        }
        Witnesshall none = office();
        noIndex(none, () -> none.ofChain(0, 0));
    }

    private void ofChainWhat() {
        Witnesshall x = withThree();
        for (int what : new int[] {-1, 4, MIN, MAX}) {
            noArgument(x, () -> x.ofChain(0, what));
        }
        is(x.ofChain(0, 0), 3);
        is(x.ofChain(0, 3), 523);
    }

    private void ofChainTold() {
        Witnesshall x = withThree();
        int[] due = {3, 3, 10, 523};
        for (int what = 0; what <= 3; what++) {
            is(x.ofChain(0, what), due[what]);
        }
    }

    // ---- promises 50 to 52

    private void countPapers() {
        Witnesshall x = decided(999983, 9);
        isCount(x, 0, 7, 7, 0, 0);
        x.withdraw(2);
        isCount(x, 0, 7, 4, 1, 2);
        x.withdraw(5);
        isCount(x, 0, 7, 4, 2, 1);
        x.withdraw(6);
        isCount(x, 0, 7, 3, 3, 1);
        x.decide(7);
        isCount(x, 0, 8, 5, 3, 0);
        isCount(filled(150), 0, 150, 150, 0, 0);
    }

    private void isCount(Witnesshall x, int from, int... due) {
        for (int i = 0; i < due.length; i++) {
            is(x.count(from + i), due[i]);
        }
    }

    private void countNumbers() {
        Witnesshall x = decided(2, 5, 11, 15);
        filed(x, 9, 11, 2, 5);
        filed(x, 1, 15, 2);
        isCount(x, 4, 4, 3);
        x.withdraw(2);
        isCount(x, 4, 4, 3);
        x.withdraw(1);
        isCount(x, 4, 4, 1);
        x.withdraw(3);
        x.withdraw(5);
        isCount(x, 4, 4, 1);
        for (int e : new int[] {61, 89, 107, 127}) {
            x.make(0, 2, e, -1);
            x.seek(11, 0);
        }
        isCount(x, 4, 8, 5);
    }

    private void countOthers() {
        Witnesshall x = withThree();
        begunAt(x, 7);
        x.base(2);
        x.base(3);
        x.base(5);
        x.knock();
        isCount(x, 6, 2, 5, 3, 1);
        x.undo();
        x.drop(0);
        x.knock();
        isCount(x, 6, 1, 4, 2, 2);
    }

    private void countWhat() {
        Witnesshall x = decided(2);
        for (int what : new int[] {-1, 10, MIN, MAX}) {
            noArgument(x, () -> x.count(what));
        }
        is(x.count(0), 1);
        is(x.count(9), 0);
    }

    private void countTold() {
        Witnesshall x = decided(2, 5, 11, 15);
        x.withdraw(0);
        x.knock();
        isCount(x, 0, 4, 3, 1, 0, 4, 2, 0, 5, 0, 1);
    }

    private void soundVerdicts() {
        Witnesshall x = office();
        is(x.isSound(), true);
        for (int n = 2; n <= 60; n++) {
            x.decide(n);
            is(x.isSound(), true);
        }
        for (int paper = 0; paper < 50; paper += 3) {
            x.withdraw(paper);
            is(x.isSound(), true);
        }
        filed(x, 1, 15, 2);
        filed(x, 9, 13, 2, 3);
        is(x.isSound(), true);
    }

    private void soundBounds() {
        Witnesshall x = decided(999983, 999999, 999998, 2047);
        is(x.isSound(), true);
        x.decide(3);
        x.decide(166667);
        filed(x, 9, 1000003, 2, 166667);
        x.put(0, 1000001);
        x.accuse(0, 2);
        x.make(0, 2, 127, -1);
        x.seek(11, 0);
        x.make(0, 2, 101, -1);
        x.seek(4, 0);
        x.make(0, 4, 65, -1);
        x.sheet(0, 0);
        x.writeValue(3);
        x.file();
        is(x.isSound(), true);
        is(x.count(1), x.count(0));
    }

    private void soundPapers() {
        Witnesshall x = decided(999983);
        for (int paper = 0; paper <= 5; paper++) {
            x.withdraw(paper);
            is(x.isSound(), true);
        }
        for (int paper = 5; paper >= 0; paper--) {
            x.restore(paper);
            is(x.isSound(), true);
        }
        is(x.count(1), 6);
        x.withdraw(0);
        is(x.count(3), 2);
        is(x.isSound(), true);
        x.undo();
        is(x.isSound(), true);
        is(filled(150).isSound(), true);
    }

    private void soundChains() {
        Witnesshall x = withThree();
        is(x.isSound(), true);
        BigInteger[] links = {new BigInteger(x.link(0, 0)), new BigInteger(x.link(0, 1)), new BigInteger(x.link(0, 2))};
        for (int k = 1; k < 3; k++) {
            is(links[k].subtract(ONE).mod(links[k - 1].multiply(TWO)).signum(), 0);
        }
        x.withdraw(0);
        is(x.ofChain(0, 1), 0);
        is(x.isSound(), true);
        Witnesshall y = begun(131101);
        y.grow(0, true);
        y.grow(0, true);
        y.grow(0, true);
        is(y.isSound(), true);
    }

    /** The checksum without any bound, from what is asked one by one. */
    private static BigInteger summed(Witnesshall x, int... bases) {
        BigInteger d = big(5601);
        for (int what = 0; what <= 9; what++) {
            d = added(d, x.count(what));
        }
        for (int place = 0; place <= 9; place++) {
            for (int what = 0; what <= 4; what++) {
                d = added(d, x.number(place, what));
            }
        }
        for (int base : bases) {
            d = added(d, base);
        }
        d = added(d, x.sheetText().length());
        for (int paper = 0; paper < x.count(0); paper++) {
            for (int what = 0; what <= 6; what++) {
                d = added(d, x.ofPaper(paper, what));
            }
            d = added(d, x.paper(paper).length());
        }
        for (int chain = 0; chain < x.count(6); chain++) {
            for (int what = 0; what <= 3; what++) {
                d = added(d, x.ofChain(chain, what));
            }
        }
        return added(d, x.isSound() ? 1 : 0);
    }

    private static BigInteger added(BigInteger d, long v) {
        return d.multiply(big(31)).add(big(v));
    }

    private void digestWraps() {
        BigInteger due = summed(office());
        is(due.bitLength() > 300, true);
        is(office().digest(), due.longValue());
        boolean isBelow = false;
        boolean isAbove = false;
        Witnesshall x = office();
        for (int i = 0; i < 20; i++) {
            x.put(0, i);
            is(x.digest(), summed(x).longValue());
            isBelow |= x.digest() < 0;
            isAbove |= x.digest() > 0;
        }
        is(isBelow && isAbove, true);
    }

    private void digestOfNew() {
        BigInteger d = big(5601);
        for (int what = 0; what <= 9; what++) {
            d = added(d, 0);
        }
        for (int place = 0; place <= 9; place++) {
            for (int v : new int[] {0, 0, -1, 0, -1}) {
                d = added(d, v);
            }
        }
        d = added(added(d, 0), 1);
        is(office().digest(), d.longValue());
        is(office().digest(), -2710873532809964574L);
    }

    private void digestOrder() {
        Witnesshall x = decided(999983, 9, 341);
        x.base(7);
        x.base(1000);
        x.base(2);
        x.knock();
        begunAt(x, 7);
        x.grow(0, false);
        begunAt(x, 79);
        x.withdraw(0);
        faultOf(x, 8, 11, 2, -12);
        x.put(4, -1024);
        x.make(5, 2, 127, -1);
        is(x.digest(), summed(x, 7, 1000, 2).longValue());
        x.drop(0);
        is(x.digest(), summed(x, 1000, 2).longValue());
        x.strike();
        x.decide(4);
        is(x.digest(), summed(x, 1000, 2).longValue());
        for (int value : new int[] {0, -1, 10, -10, MIN, 0}) {
            x.writeValue(value);
            is(x.digest(), summed(x, 1000, 2).longValue());
        }
        x.put(0, 0);
        x.sheet(0, 0);
        is(x.digest(), summed(x, 1000, 2).longValue());
        x.undo();
        x.decide(999999);
        is(x.digest(), summed(x, 1000, 2).longValue());
    }

    private void digestTold() {
        Witnesshall x = filled(150);
        is(x.digest(), summed(x).longValue());
        Witnesshall y = withThree();
        is(y.digest(), summed(y).longValue());
        is(y.digest(), y.digest());
        long before = y.digest();
        y.knock();
        is(y.digest() == before, false);
    }
}
