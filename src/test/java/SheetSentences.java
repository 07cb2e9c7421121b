import java.math.BigInteger;
import java.util.Arrays;

/** Part 3, and promises 12 to 16, 33, 34, 41 and 43: sheets and their faults. */
final class SheetSentences extends Sentences {
    private static final int[] FACTORS_OF_NINE = {2, 3, 5, 7, 11, 13, 17, 19, 23};
    private static final int[] CARMICHAEL_OF_TEN = {11, 13, 19, 29, 31, 37, 41, 43, 71, 127};
    private static final long TEN_PRIMES = 1436697831295441L;
    /** 1 more than 4 times the product of the primes up to 23. */
    private static final int NINE_LESS = 892371481;
    /** 1 less than 2 times the product of the primes up to 19. */
    private static final int EIGHT_MORE = 19399379;

    SheetSentences(Document document, String only) {
        super(document, only);
    }

    @Override
    void all() {
        sheets();
        kindsForNo();
        kindsForYes();
        texts();
        laying();
        asking();
    }

    private void sheets() {
        String s = "part 3";
        sentence(s, "A SHEET has a KIND, a NUMBER n and a ROW of at most 10 NUMBERS.", this::rowOfTen);
        sentence(s, "Its SPOTS: 0 is n, 1 on are those of ROW, and the one after the last of ROW is its END.", this::spots);
        sentence(s, "FAULT: the smallest SPOT of which not all is so that is told of it here", this::smallestSpot);
        sentence(s, "NONE if all is so everywhere", this::noFault);
        sentence(s, "SPOTS are looked at from 0 on; within one, from left to right.", this::fromLeft);
        sentence(s, "A SPOT of ROW of which nothing is told is a FAULT.", this::nothingTold);
        sentence(s, "\"q that holds\" in a SPOT: greater than that in the SPOT before, if that is a q, too", this::risingFactors);
        sentence(s, "it IS YES (4.)", this::yesFactors);
    }

    private void kindsForNo() {
        String s = "part 3";
        sentence(s, "0 divisor, for NO: n at least 4.", this::divisorNumber);
        sentence(s, "1: d, from 2 to n - 1, divides n.", this::divisorSpot);
        sentence(s, "divides n. END: ROW has one.", this::divisorEnd);
        sentence(s, "1 power, for NO: n FIT.", this::powerNumber);
        sentence(s, "1: a, from 2 to n - 2, a^(n - 1) MOD n is not 1.", this::powerSpot);
        sentence(s, "a^(n - 1) MOD n is not 1. END: ROW has one.", this::powerEnd);
        sentence(s, "2 root, for NO: n FIT.", this::rootNumber);
        sentence(s, "1: x, from 2 to n - 2, x * x MOD n is 1.", this::rootSpot);
        sentence(s, "x * x MOD n is 1. END: ROW has one.", this::rootEnd);
        sentence(s, "3 lucas, for NO: n FIT.", this::lucasNumber);
        sentence(s, "1: P, from 1 to 100. 2: Q, from -100 to 100, not 0; with D of", this::lucasPair);
        sentence(s, "with D of P * P - 4 * Q, D^((n - 1) / 2) MOD n is n - 1.", this::lucasPower);
        sentence(s, "END: ROW has two; U(n + 1) MOD n is not 0.", this::lucasEnd);
        sentence(s, "4 squares, for NO: n is 2^k - 1 with an odd k from 3 on.", this::squaresNumber);
        sentence(s, "END: S(k - 2) is not 0, where S(0) is 4 and S(i + 1) is (S(i)^2 - 2) MOD n.", this::squaresEnd);
        sentence(s, "5 three, for NO: n is 2^e + 1 with e of 2, 4, 8, 16, 32 and so on, each twice the one before.", this::threeNumber);
        sentence(s, "END: 3^((n - 1) / 2) MOD n is not n - 1.", this::threeEnd);
        sentence(s, "6 carmichael, for NO: n FIT.", this::carmichaelNumber);
        sentence(s, "1 on: a q that holds, divides n, and less 1 divides n - 1.", this::carmichaelSpots);
        sentence(s, "END: ROW has two or more, their product is n.", this::carmichaelEnd);
    }

    private void kindsForYes() {
        String s = "part 3";
        sentence(s, "7 small, for YES: n from 2 to 999.", this::smallNumber);
        sentence(s, "END: n is SIFTED.", this::smallEnd);
        sentence(s, "8 full, for YES: n FIT.", this::fullNumber);
        sentence(s, "1: a, from 2 to n - 2, a^(n - 1) MOD n is 1.", this::fullSpot);
        sentence(s, "2 on: a q that holds, divides n - 1, and a^((n - 1) / q) MOD n is not 1.", this::fullFactors);
        sentence(s, "END: n - 1, divided by each q as often as it goes, leaves 1.", this::fullEnd);
        sentence(s, "9 part, for YES: n FIT.", this::partNumber);
        sentence(s, "1: as in 8.", this::partSpot);
        sentence(s, "and GCD of n and (a^((n - 1) / q) MOD n) - 1 is 1.", this::partFactors);
        sentence(s, "END: (F + 1)^2 is greater than n, where F is the product, for each q, of its greatest power that divides n - 1",
            this::partEnd);
        sentence(s, "divides n - 1 (1 without any)", this::partEmpty);
        sentence(s, "10 plus, for YES: n FIT.", this::plusNumber);
        sentence(s, "1: P, from 1 to 100. 2: Q, from -100 to 100, not 0; GCD of n and", this::plusPair);
        sentence(s, "GCD of n and Q * (P * P - 4 * Q) is 1; U(n + 1) MOD n is 0.", this::plusRow);
        sentence(s, "3 on: a q that holds, divides n + 1, and GCD of n and U((n + 1) / q) MOD n is 1.", this::plusFactors);
        sentence(s, "END: (F - 1)^2 is greater than n, where F is the product, for each q, of its greatest power that divides n + 1",
            this::plusEnd);
        sentence(s, "divides n + 1 (1 without any)", this::plusEmpty);
        sentence(s, "11 squares, for YES: as 4, but S(k - 2) is 0.", this::squaresForYes);
        sentence(s, "12 three, for YES: as 5, but the POWER is n - 1.", this::threeForYes);
    }

    private void texts() {
        String s = "part 3";
        sentence(s, "TEXT of it: n, \"yes\" or \"no\", the name of the KIND as it stands above, and ROW, all with one blank between",
            this::textOfEach);
        sentence(s, "On the DESK lies at most one SHEET, none at first", this::oneSheet);
        sentence(s, "it begins with an empty ROW", this::emptyRow);
    }

    private void laying() {
        sentence("promise 12", "(another one is gone)", this::sheetIsGone);
        sentence("promise 12", "the PLACE of its NUMBER (as it is now)", this::sheetOfNow);
        sentence("promise 12", "Returns its FAULT.", this::sheetTold);
        sentence("promise 12", "if there is no such PLACE", this::sheetNowhere);
        sentence("promise 12", "if kind is not 0 to 12", this::sheetKind);
        sentence("promise 13", "Writes the NUMBER of a PLACE at the end of the ROW.", this::writeLast);
        sentence("promise 13", "if there is no such PLACE", this::writeNowhere);
        sentence("promise 13", "if there is no SHEET", this::writeWithoutSheet);
        sentence("promise 13", "or its ROW has 10", this::writeEleventh);
        sentence("promise 13", "Returns how many are in the ROW.", this::writeTold);
        sentence("promise 14", "if there is no SHEET", this::writeValueWithoutSheet);
        sentence("promise 14", "or its ROW has 10", this::writeValueEleventh);
        sentence("promise 14", "Returns how many are in the ROW.", this::writeValueTold);
        sentence("promise 15", "if there is no SHEET", this::strikeWithoutSheet);
        sentence("promise 15", "or its ROW is empty", this::strikeOfNone);
        sentence("promise 15", "Returns how many are left in it.", this::strikeTold);
        sentence("promise 16", "Takes the SHEET as a PAPER (there is none on the DESK then), if it has no FAULT.", this::fileTakes);
        sentence("promise 16", "Returns the number of the PAPER, or -1 - FAULT, if it has one", this::fileTold);
        sentence("promise 16", "(nothing is changed then)", this::fileChangesNothing);
        sentence("promise 16", "if there is no SHEET", this::fileWithoutSheet);
        sentence("promise 16", "or its NUMBER has a HELD PAPER of its KIND", this::fileOfHeld);
        sentence("promise 16", "or there are 150 PAPERS (whatever FAULT it has)", this::fileWithoutRoom);
    }

    private void asking() {
        sentence("promise 33", "Returns FAULT of the SHEET.", this::faultTold);
        sentence("promise 33", "if there is none", this::faultWithoutSheet);
        sentence("promise 34", "Returns TEXT of the SHEET (\"\" without one).", this::sheetTextTold);
        sentence("promise 41", "Returns its TEXT.", this::paperTold);
        sentence("promise 41", "if there is no such PAPER", this::paperNowhere);
        sentence("promise 43", "- spot: the SPOT of that NUMBER, not the END", this::damagedSpots);
        sentence("promise 43", "- by: by how much, -3 to 3", this::damagedBounds);
        sentence("promise 43", "Returns FAULT of that SHEET, as all is now.", this::damagedNow);
        sentence("promise 43", "Reads a PAPER's TEXT as a SHEET, with one of its NUMBERS made greater.", this::damagedReads);
        sentence("promise 43", "if there is no such PAPER or SPOT", this::damagedNowhere);
        sentence("promise 43", "if by is not in its bounds", this::damagedArgument);
    }

    // ---- a sheet and its spots

    private static int[] joined(int[] head, int... tail) {
        int[] all = Arrays.copyOf(head, head.length + tail.length);
        System.arraycopy(tail, 0, all, head.length, tail.length);
        return all;
    }

    /** A row of 10 is looked over to its END, and taken, for each KIND that can use so many. */
    private void rowOfTen() {
        Witnesshall x = decided(FACTORS_OF_NINE);
        int[] row = joined(new int[] {58}, FACTORS_OF_NINE);
        for (int kind = 8; kind <= 9; kind++) {
            is(faultOf(x, kind, NINE_LESS, row), NONE);
            noState(x, () -> x.writeValue(29));
            noState(x, () -> x.write(0));
            int paper = x.file();
            is(x.ofPaper(paper, 3), 10);
            is(x.paper(paper), NINE_LESS + " yes " + (kind == 8 ? "full" : "part") + " 58 2 3 5 7 11 13 17 19 23");
            is(x.fetch(1, paper, 10), 5);
            is(x.damaged(paper, 10, 0), NONE);
            is(x.damaged(paper, 10, 1), 10);
        }
        is(faultOf(x, 8, NINE_LESS, Arrays.copyOf(row, 9)), 10);
        is(faultOf(x, 10, EIGHT_MORE, 1, -100, 2, 3, 5, 7, 11, 13, 17, 19), NONE);
        is(x.file(), 11);
        Witnesshall y = decided(CARMICHAEL_OF_TEN);
        is(faultOf(y, 6, TEN_PRIMES, CARMICHAEL_OF_TEN), NONE);
        is(y.file(), 10);
        is(y.ofPaper(10, 5), 10);
        is(y.paper(10), TEN_PRIMES + " no carmichael 11 13 19 29 31 37 41 43 71 127");
        for (int kind = 0; kind <= 12; kind++) {
            int some = kind;
            faultOf(y, some, 15, new int[10]);
            noState(y, () -> y.writeValue(0));
            is(y.strike(), 9);
            is(y.writeValue(0), 10);
        }
    }

    private void spots() {
        Witnesshall x = decided(2, 5);
        is(faultOf(x, 8, 12, 2, 2, 5), 0);
        is(faultOf(x, 8, 11, 1, 2, 5), 1);
        is(faultOf(x, 8, 11, 2, 3, 5), 2);
        is(faultOf(x, 8, 11, 2, 2, 7), 3);
        is(faultOf(x, 8, 11, 2, 2), 3);
        is(faultOf(x, 8, 11, 2), 2);
        is(faultOf(x, 8, 11), 1);
    }

    private void smallestSpot() {
        Witnesshall x = decided(2, 5);
        is(faultOf(x, 8, 12, 1, 3, 7, 9), 0);
        is(faultOf(x, 8, 11, 1, 3, 7, 9), 1);
        is(faultOf(x, 8, 11, 2, 3, 7, 9), 2);
        is(faultOf(x, 8, 11, 2, 2, 7, 9), 3);
        is(faultOf(x, 8, 11, 2, 2, 5, 9), 4);
    }

    private void noFault() {
        Witnesshall x = decided(2, 3, 5, 7, 11, 17);
        is(faultOf(x, 0, 15, 3), -1);
        is(faultOf(x, 1, 15, 2), -1);
        is(faultOf(x, 2, 15, 4), -1);
        is(faultOf(x, 3, 85, 1, -3), -1);
        is(faultOf(x, 4, 511), -1);
        is(faultOf(x, 5, (1L << 32) + 1), -1);
        is(faultOf(x, 6, 561, 3, 11, 17), -1);
        is(faultOf(x, 7, 997), -1);
        is(faultOf(x, 8, 11, 2, 2, 5), -1);
        is(faultOf(x, 9, 11, 2, 5), -1);
        is(faultOf(x, 10, 5, 3, 3, 2, 3), -1);
        is(faultOf(x, 11, 127), -1);
        is(faultOf(x, 12, 257), -1);
    }

    /** A SPOT that is no q (a number too many) comes ahead of the END, and n ahead of all. */
    private void fromLeft() {
        Witnesshall x = decided(2, 5);
        is(faultOf(x, 0, 3), 0);
        is(faultOf(x, 1, 4, 2), 0);
        is(faultOf(x, 1, 8, 1, 1), 0);
        is(faultOf(x, 0, 15, 4, 4), 1);
        is(faultOf(x, 3, 21, 101, 101, 101), 1);
        is(faultOf(x, 3, 21, 1, 101, 101), 2);
        is(faultOf(x, 8, 11, 1, 1, 1), 1);
        is(faultOf(x, 6, 15, 2, 2), 1);
        is(faultOf(x, 10, 7, 0, 0, 0), 1);
        is(faultOf(x, 10, 7, 1, 0, 0), 2);
    }

    private void nothingTold() {
        Witnesshall x = decided(2, 3, 5);
        is(faultOf(x, 0, 15, 3, 5), 2);
        is(faultOf(x, 0, 15, 3, 3, 3), 2);
        is(faultOf(x, 1, 15, 2, 7), 2);
        is(faultOf(x, 2, 15, 4, 11), 2);
        is(faultOf(x, 3, 85, 1, -3, 3), 3);
        is(faultOf(x, 4, 511, 7), 1);
        is(faultOf(x, 5, (1L << 32) + 1, 3), 1);
        is(faultOf(x, 7, 11, 2), 1);
        is(faultOf(x, 11, 127, 3), 1);
        is(faultOf(x, 12, 257, 3), 1);
    }

    /** The first q follows no q: it may be less than what stands before. */
    private void risingFactors() {
        Witnesshall x = decided(2, 3, 5, 11, 17);
        is(faultOf(x, 6, 561, 3, 11, 17), NONE);
        is(faultOf(x, 6, 561, 3, 17, 11), 3);
        is(faultOf(x, 6, 561, 3, 3, 11), 2);
        is(faultOf(x, 6, 561, 11, 3), 2);
        is(faultOf(x, 8, 11, 2, 2, 5), NONE);
        is(faultOf(x, 8, 11, 8, 2, 5), NONE);
        is(faultOf(x, 8, 11, 2, 5, 2), 3);
        is(faultOf(x, 8, 11, 2, 2, 2), 3);
        is(faultOf(x, 8, 13, 11, 2, 3), NONE);
        is(faultOf(x, 9, 13, 11, 2, 3), NONE);
        is(faultOf(x, 9, 13, 2, 3, 2), 3);
        is(faultOf(x, 9, 13, 2, 3, 3), 3);
        is(faultOf(x, 10, 5, 3, 3, 2, 3), NONE);
        is(faultOf(x, 10, 5, 3, 3, 3, 2), 4);
        is(faultOf(x, 10, 5, 3, 3, 2, 2), 4);
        is(faultOf(x, 10, 29, 100, -100, 3, 5), NONE);
        is(faultOf(x, 10, 13, 1, 100, 7), 2);
    }

    private void yesFactors() {
        Witnesshall x = office();
        is(faultOf(x, 6, 561, 3, 11, 17), 1);
        is(faultOf(x, 8, 11, 2, 2, 5), 2);
        is(faultOf(x, 9, 11, 2, 5), 2);
        is(faultOf(x, 10, 5, 3, 3, 2, 3), 3);
        x.decide(2);
        is(faultOf(x, 8, 11, 2, 2, 5), 3);
        is(faultOf(x, 10, 5, 3, 3, 2, 3), 4);
        int five = x.decide(5);
        x.decide(3);
        is(faultOf(x, 8, 11, 2, 2, 5), NONE);
        is(faultOf(x, 9, 11, 2, 5), NONE);
        is(faultOf(x, 10, 5, 3, 3, 2, 3), NONE);
        is(faultOf(x, 6, 561, 3, 11, 17), 2);
        x.withdraw(five);
        is(faultOf(x, 8, 11, 2, 2, 5), 3);
        x.decide(10);
        is(faultOf(x, 9, 11, 2, 10), 2);
        is(faultOf(x, 9, 11, 2, 1), 2);
        is(faultOf(x, 9, 11, 2, 0), 2);
        is(faultOf(x, 9, 11, 2, -5), 2);
        is(faultOf(x, 6, 561, 0), 1);
    }

    // ---- KINDS for NO

    private void divisorNumber() {
        Witnesshall x = office();
        is(faultOf(x, 0, 3), 0);
        is(faultOf(x, 0, 3, 3), 0);
        is(faultOf(x, 0, 4), 1);
        is(faultOf(x, 0, 4, 2), NONE);
        is(faultOf(x, 0, 5), 1);
        for (int n : new int[] {2, 1, 0, -1, -4, -8, MIN}) {
            is(faultOf(x, 0, n, 2), 0);
        }
        x.make(0, 4, 65, -1);
        is(x.sheet(0, 0), 1);
    }

    private void divisorSpot() {
        Witnesshall x = office();
        int[] divisors = {2, 3, 4, 6};
        for (int d = -13; d <= 25; d++) {
            is(faultOf(x, 0, 12, d), Arrays.binarySearch(divisors, d) >= 0 ? NONE : 1);
        }
        is(faultOf(x, 0, 4, 4), 1);
        is(faultOf(x, 0, 4, 1), 1);
        is(faultOf(x, 0, 4, 3), 1);
        x.make(0, 4, 65, -1);
        x.sheet(0, 0);
        x.write(0);
        is(x.fault(), 1);
        x.strike();
        x.writeValue(3);
        is(x.fault(), NONE);
    }

    private void divisorEnd() {
        Witnesshall x = office();
        is(faultOf(x, 0, 12), 1);
        is(faultOf(x, 0, 12, 2), NONE);
        is(faultOf(x, 0, 12, 2, 6), 2);
        is(faultOf(x, 0, 12, 2, 6, 4), 2);
    }

    /** What is said of a NUMBER that is to be FIT, with a row that would hold for one. */
    private void fitOnly(int kind, int... row) {
        Witnesshall x = decided(2, 3, 5, 7);
        for (int n : new int[] {3, 4, 6, 8, 1000, 2, 1, 0, -1, -3, -5, -7, -9, MIN}) {
            is(faultOf(x, kind, n, row), 0);
        }
        is(faultOf(x, kind, 5, row) > 0, true);
        is(faultOf(x, kind, 7, row) > 0, true);
        x.make(0, 2, 129, 0);
        is(x.sheet(kind, 0), 0);
        x.make(0, 2, 129, 1);
        is(x.sheet(kind, 0), 1);
    }

    private void powerNumber() {
        fitOnly(1, 2);
    }

    private void powerSpot() {
        Witnesshall x = office();
        for (int n : new int[] {5, 9, 15, 21, 25, 341}) {
            for (int a = -4; a <= n + 4; a++) {
                boolean isSo = a >= 2 && a <= n - 2 && !big(a).modPow(big(n - 1), big(n)).equals(ONE);
                is(faultOf(x, 1, n, a), isSo ? NONE : 1);
            }
        }
        is(faultOf(x, 1, 9, 0), 1);
        is(faultOf(x, 1, 9, 9), 1);
        is(faultOf(x, 1, 9, 7), NONE);
        is(faultOf(x, 1, 9, 2), NONE);
    }

    private void powerEnd() {
        Witnesshall x = office();
        is(faultOf(x, 1, 9), 1);
        is(faultOf(x, 1, 9, 2), NONE);
        is(faultOf(x, 1, 9, 2, 2), 2);
        is(faultOf(x, 1, 9, 2, 4), 2);
    }

    private void rootNumber() {
        fitOnly(2, 4);
    }

    private void rootSpot() {
        Witnesshall x = office();
        for (int n : new int[] {5, 9, 15, 21, 35, 91, 105}) {
            for (int root = -n - 2; root <= 2 * n + 2; root++) {
                boolean isSo = root >= 2 && root <= n - 2 && root * root % n == 1;
                is(faultOf(x, 2, n, root), isSo ? NONE : 1);
            }
        }
        is(faultOf(x, 2, 15, 1), 1);
        is(faultOf(x, 2, 15, 14), 1);
        is(faultOf(x, 2, 15, 4), NONE);
        is(faultOf(x, 2, 15, 11), NONE);
    }

    private void rootEnd() {
        Witnesshall x = office();
        is(faultOf(x, 2, 15), 1);
        is(faultOf(x, 2, 15, 4), NONE);
        is(faultOf(x, 2, 15, 4, 4), 2);
        is(faultOf(x, 2, 15, 4, 11), 2);
    }

    private void lucasNumber() {
        fitOnly(3, 101, 1);
    }

    private void lucasPair() {
        Witnesshall x = office();
        is(faultOf(x, 3, 1387, 1, -100), NONE);
        is(faultOf(x, 3, 2587, 1, 100), NONE);
        is(faultOf(x, 3, 1603, 100, -100), NONE);
        is(faultOf(x, 3, 3281, 100, 100), NONE);
        is(faultOf(x, 3, 2501, 100, 1), NONE);
        is(faultOf(x, 3, 87, 100, -1), NONE);
        for (int n : new int[] {1387, 87, 3281, 2501}) {
            for (int p : new int[] {0, 101, -1, -100, MIN, MAX}) {
                is(faultOf(x, 3, n, p, 1), 1);
            }
            for (int q : new int[] {0, 101, -101, MIN, MAX}) {
                is(faultOf(x, 3, n, 1, q), 2);
                is(faultOf(x, 3, n, 100, q), 2);
            }
        }
        is(faultOf(x, 3, 85, 1, -3), NONE);
        is(faultOf(x, 3, 85, 86, -3), NONE);
        is(faultOf(x, 3, 85, 171, -3), 1);
        is(faultOf(x, 3, 35333, 1, -101), 2);
        is(faultOf(x, 3, 703, 1, 101), 2);
        is(faultOf(x, 3, 1649, 101, 1), 1);
        is(faultOf(x, 3, 27, 101, -1), 1);
    }

    private static BigInteger lucasAt(int p, int q, int k, int n) {
        BigInteger u = BigInteger.ZERO;
        BigInteger after = ONE;
        for (int i = 0; i < k; i++) {
            BigInteger then = big(p).multiply(after).subtract(big(q).multiply(u)).mod(big(n));
            u = after;
            after = then;
        }
        return u.mod(big(n));
    }

    private void lucasPower() {
        Witnesshall x = office();
        for (int n : new int[] {5, 7, 15, 21, 35, 85, 91, 221, 325}) {
            for (int p = 1; p <= 4; p++) {
                for (int q = -5; q <= 5; q++) {
                    if (q == 0) {
                        continue;
                    }
                    boolean isLess = big(p * p - 4 * q).modPow(big((n - 1) / 2), big(n)).intValue() == n - 1;
                    int end = lucasAt(p, q, n + 1, n).signum() == 0 ? 3 : NONE;
                    is(faultOf(x, 3, n, p, q), isLess ? end : 2);
                }
            }
        }
    }

    private void lucasEnd() {
        Witnesshall x = office();
        is(faultOf(x, 3, 85), 1);
        is(faultOf(x, 3, 85, 1), 2);
        is(faultOf(x, 3, 85, 1, -3), NONE);
        is(faultOf(x, 3, 85, 1, -3, -3), 3);
        is(faultOf(x, 3, 5, 1, 2), 3);
        is(faultOf(x, 3, 7, 1, -1), 3);
        is(faultOf(x, 3, 11, 99, 100), 3);
    }

    private static boolean isSquaresNumber(BigInteger n) {
        for (int k = 3; k <= 131; k += 2) {
            if (n.equals(two(k).subtract(ONE))) {
                return true;
            }
        }
        return false;
    }

    private void squaresNumber() {
        squaresOpen(4);
        squaresOpen(11);
    }

    private void squaresOpen(int kind) {
        Witnesshall x = office();
        for (int n = -9; n <= 520; n++) {
            x.put(0, n);
            is(x.sheet(kind, 0) == 0, !isSquaresNumber(big(n)));
        }
        for (int k = 1; k <= 130; k++) {
            lay(x, 0, two(k).subtract(ONE));
            is(x.sheet(kind, 0) == 0, k < 3 || k % 2 == 0);
            lay(x, 0, two(k).subtract(ONE).negate());
            is(x.sheet(kind, 0), 0);
        }
        lay(x, 0, two(129));
        is(x.sheet(kind, 0), 0);
        lay(x, 0, two(129).subtract(TWO));
        is(x.sheet(kind, 0), 0);
        lay(x, 0, two(129).subtract(big(3)));
        is(x.sheet(kind, 0), 0);
    }

    private static boolean isLastZero(int k) {
        BigInteger n = two(k).subtract(ONE);
        BigInteger s = big(4);
        for (int i = 0; i < k - 2; i++) {
            s = s.multiply(s).subtract(TWO).mod(n);
        }
        return s.signum() == 0;
    }

    private void squaresEnd() {
        Witnesshall x = office();
        for (int k = 3; k <= 129; k += 2) {
            x.make(0, 2, k, -1);
            is(x.sheet(4, 0), isLastZero(k) ? 1 : NONE);
        }
        is(faultOf(x, 4, 7), 1);
        is(faultOf(x, 4, 511), NONE);
        is(faultOf(x, 4, 511, 7), 1);
    }

    private void threeNumber() {
        threeOpen(5);
        threeOpen(12);
    }

    private void threeOpen(int kind) {
        Witnesshall x = office();
        for (int n = -9; n <= 300; n++) {
            x.put(0, n);
            is(x.sheet(kind, 0) == 0, n != 5 && n != 17 && n != 257);
        }
        for (int e = 0; e <= 129; e++) {
            boolean isOne = e >= 2 && Integer.bitCount(e) == 1;
            x.make(0, 2, e, 1);
            is(x.sheet(kind, 0) == 0, !isOne);
            x.make(0, 2, e, -1);
            is(x.sheet(kind, 0), 0);
            x.make(0, 2, e, 3);
            is(x.sheet(kind, 0) == 0, e != 1);
        }
    }

    private void threeEnd() {
        Witnesshall x = office();
        for (int e = 2; e <= 128; e *= 2) {
            x.make(0, 2, e, 1);
            is(x.sheet(5, 0), e <= 16 ? 1 : NONE);
            x.writeValue(3);
            is(x.fault(), 1);
        }
    }

    private void carmichaelNumber() {
        Witnesshall x = decided(2, 3, 5, 7);
        fitOnly(6, 2, 3);
        is(faultOf(x, 6, 3, 3), 0);
        is(faultOf(x, 6, 6, 2, 3), 0);
        is(faultOf(x, 6, 5, 5), 2);
        is(faultOf(x, 6, 7, 7), 2);
        is(faultOf(x, 6, 9, 3), 2);
    }

    private void carmichaelSpots() {
        Witnesshall x = decided(2, 3, 5, 7, 11, 13, 17, 19, 29);
        is(faultOf(x, 6, 561, 3, 11, 17), NONE);
        is(faultOf(x, 6, 561, 3, 5, 17), 2);
        is(faultOf(x, 6, 561, 2, 11, 17), 1);
        is(faultOf(x, 6, 15, 3, 5), 2);
        is(faultOf(x, 6, 91, 7, 13), 2);
        is(faultOf(x, 6, 21, 3, 7), 2);
        is(faultOf(x, 6, 35, 5), 1);
        is(faultOf(x, 6, 1105, 5, 13, 17), NONE);
        is(faultOf(x, 6, 2465, 5, 17, 29), NONE);
    }

    private void carmichaelEnd() {
        Witnesshall x = decided(3, 5, 7, 11, 13, 17, 19, 23);
        is(faultOf(x, 6, 561), 1);
        is(faultOf(x, 6, 561, 3), 2);
        is(faultOf(x, 6, 561, 3, 11), 3);
        is(faultOf(x, 6, 561, 11, 17), 3);
        is(faultOf(x, 6, 561, 3, 11, 17), NONE);
        is(faultOf(x, 6, 561, 3, 11, 17, 19), 4);
        is(faultOf(x, 6, 7, 7), 2);
        is(faultOf(x, 6, 23, 23), 2);
        is(faultOf(x, 6, 45, 3, 5), 3);
    }

    // ---- KINDS for YES

    private void smallNumber() {
        Witnesshall x = office();
        for (int n : new int[] {1, 0, -1, -2, -7, 1000, 1001, 1009, 999983, MIN, MAX}) {
            is(faultOf(x, 7, n), 0);
        }
        is(faultOf(x, 7, 2), NONE);
        is(faultOf(x, 7, 999), 1);
        is(faultOf(x, 7, 998), 1);
        is(faultOf(x, 7, 997), NONE);
        x.make(0, 2, 127, -1);
        is(x.sheet(7, 0), 0);
    }

    private void smallEnd() {
        Witnesshall x = office();
        for (int n = 2; n <= 999; n++) {
            is(faultOf(x, 7, n), big(n).isProbablePrime(40) ? NONE : 1);
        }
        is(faultOf(x, 7, 11, 11), 1);
        is(faultOf(x, 7, 4, 2), 1);
    }

    private void fullNumber() {
        fitOnly(8, 4, 2);
    }

    /** For a prime each a that is no multiple would do, if it were within its bounds. */
    private void powerOfPart(int kind) {
        Witnesshall x = decided(2, 5);
        for (int a = -12; a <= 24; a++) {
            is(faultOf(x, kind, 11, a) == 1, a < 2 || a > 9);
        }
        for (int a = 2; a <= 13; a++) {
            boolean isOne = big(a).modPow(big(14), big(15)).equals(ONE);
            is(faultOf(x, kind, 15, a) == 1, !isOne);
        }
        is(faultOf(x, kind, 11, 2, 5), kind == 8 ? 3 : NONE);
        is(faultOf(x, kind, 11, 9, 5), kind == 8 ? 3 : NONE);
        is(faultOf(x, kind, 11, 13, 5), 1);
        is(faultOf(x, kind, 11, -9, 5), 1);
    }

    private void fullSpot() {
        powerOfPart(8);
    }

    private void fullFactors() {
        Witnesshall x = decided(2, 3, 5, 7);
        for (int a = 2; a <= 9; a++) {
            for (int q : new int[] {2, 5}) {
                boolean isSo = !big(a).modPow(big(10 / q), big(11)).equals(ONE);
                is(faultOf(x, 8, 11, a, q), isSo ? 3 : 2);
            }
            is(faultOf(x, 8, 11, a, 3), 2);
            is(faultOf(x, 8, 11, a, 7), 2);
        }
        is(faultOf(x, 8, 15, 4, 2), 3);
        is(faultOf(x, 8, 15, 4, 2, 7), 3);
        is(faultOf(x, 8, 25, 7, 2), 2);
    }

    private void fullEnd() {
        Witnesshall x = decided(2, 3, 5, 7);
        is(faultOf(x, 8, 11), 1);
        is(faultOf(x, 8, 11, 2), 2);
        is(faultOf(x, 8, 11, 2, 2), 3);
        is(faultOf(x, 8, 11, 2, 5), 3);
        is(faultOf(x, 8, 11, 2, 2, 5), NONE);
        is(faultOf(x, 8, 11, 2, 2, 5, 7), 4);
        is(faultOf(x, 8, 5, 2, 2), NONE);
        is(faultOf(x, 8, 17, 3, 2), NONE);
        is(faultOf(x, 8, 19, 2, 2, 3), NONE);
        is(faultOf(x, 8, 19, 2, 3), 3);
        is(faultOf(x, 8, 19, 2, 2), 3);
        is(faultOf(x, 8, 65537, 3, 2), NONE);
        is(faultOf(x, 8, 37, 2, 2, 3), NONE);
        is(faultOf(x, 8, 7, 3, 2), 3);
    }

    private void partNumber() {
        fitOnly(9, 4, 2);
    }

    private void partSpot() {
        powerOfPart(9);
    }

    private void partFactors() {
        Witnesshall x = decided(2, 3, 5, 7);
        is(faultOf(x, 9, 15, 4, 2), 2);
        is(faultOf(x, 8, 15, 4, 2), 3);
        is(faultOf(x, 9, 13, 5, 3), 2);
        is(faultOf(x, 9, 13, 3, 2), 2);
        is(faultOf(x, 9, 13, 2, 2), NONE);
        is(faultOf(x, 9, 11, 2, 3), 2);
        is(faultOf(x, 9, 11, 2, 7), 2);
        for (int n : new int[] {11, 13, 31, 61, 91, 85, 65, 121, 141, 181}) {
            for (int a = 2; a <= n - 2; a++) {
                for (int q : new int[] {2, 3, 5}) {
                    is(faultOf(x, 9, n, a, q), partDue(n, a, q));
                }
            }
        }
    }

    private static int partDue(int n, int a, int q) {
        if (!big(a).modPow(big(n - 1), big(n)).equals(ONE)) {
            return 1;
        }
        if ((n - 1) % q != 0 || !big(a).modPow(big((n - 1) / q), big(n)).subtract(ONE).gcd(big(n)).equals(ONE)) {
            return 2;
        }
        int f = 1;
        while ((n - 1) % (f * q) == 0) {
            f *= q;
        }
        return (f + 1) * (f + 1) > n ? NONE : 3;
    }

    private void partEnd() {
        Witnesshall x = decided(2, 3, 5, 7, 11);
        is(faultOf(x, 9, 7, 3, 2), NONE);
        is(faultOf(x, 9, 11, 2, 2), 3);
        is(faultOf(x, 9, 13, 2, 2), NONE);
        is(faultOf(x, 9, 29, 2, 2), 3);
        is(faultOf(x, 9, 29, 2, 7), NONE);
        is(faultOf(x, 9, 29, 2, 2, 7), NONE);
        is(faultOf(x, 9, 13, 2, 3), NONE);
        is(faultOf(x, 9, 31, 3, 5), NONE);
        is(faultOf(x, 9, 41, 6, 5), 3);
        is(faultOf(x, 9, 43, 3, 2, 3), NONE);
        is(faultOf(x, 9, 43, 3, 2), 3);
        is(faultOf(x, 9, 67, 2, 2), 3);
        is(faultOf(x, 9, 67, 2, 2, 3), 4);
        is(faultOf(x, 9, 67, 2, 3), 3);
        is(faultOf(x, 9, 67, 2, 11), NONE);
        is(faultOf(x, 9, 73, 5, 3), NONE);
        is(faultOf(x, 9, 73, 5, 2), NONE);
        is(faultOf(x, 9, 29, 2, 2, 7, 11), 4);
    }

    private void partEmpty() {
        Witnesshall x = decided(2);
        is(faultOf(x, 9, 5), 1);
        is(faultOf(x, 9, 5, 2), 2);
        is(faultOf(x, 9, 5, 2, 2), NONE);
        is(faultOf(x, 9, 7, 3), 2);
        is(faultOf(x, 9, 7, 3, 2), NONE);
    }

    private void plusNumber() {
        fitOnly(10, 101, 1);
    }

    private void plusPair() {
        Witnesshall x = decided(2, 3, 5, 7, 11, 13, 17, 19, 31);
        is(faultOf(x, 10, 13, 1, -100, 7), NONE);
        is(faultOf(x, 10, 37, 1, 100, 19), NONE);
        is(faultOf(x, 10, 7, 100, -100, 2), NONE);
        is(faultOf(x, 10, 13, 100, 100, 7), NONE);
        is(faultOf(x, 10, 43, 100, 1, 11), NONE);
        is(faultOf(x, 10, 13, 100, -1, 7), NONE);
        for (int n : new int[] {7, 13, 37}) {
            for (int p : new int[] {0, 101, -1, -100, MIN, MAX}) {
                is(faultOf(x, 10, n, p, 1), 1);
            }
            for (int q : new int[] {0, 101, -101, MIN, MAX}) {
                is(faultOf(x, 10, n, 1, q), 2);
                is(faultOf(x, 10, n, 100, q), 2);
            }
        }
        is(faultOf(x, 10, 7, 1, -1, 2), NONE);
        is(faultOf(x, 10, 7, 1, -1 + 105, 2), 2);
        is(faultOf(x, 10, 7, 1 + 105, -1, 2), 1);
        is(faultOf(x, 10, 13, 1, -101, 7), 2);
        is(faultOf(x, 10, 7, 1, 101, 2), 2);
        is(faultOf(x, 10, 13, 101, 1, 7), 1);
        is(faultOf(x, 10, 7, 101, -1, 2), 1);
    }

    private void plusRow() {
        Witnesshall x = decided(2, 3, 5, 7);
        for (int n : new int[] {5, 7, 9, 11, 13, 15, 17, 19, 21, 25, 35}) {
            for (int p = 1; p <= 8; p++) {
                for (int q = -8; q <= 8; q++) {
                    if (q == 0) {
                        continue;
                    }
                    boolean isOne = big(n).gcd(big(q * (p * p - 4 * q))).equals(ONE);
                    boolean isSo = isOne && lucasAt(p, q, n + 1, n).signum() == 0;
                    is(faultOf(x, 10, n, p, q), isSo ? 3 : 2);
                }
            }
        }
        is(faultOf(x, 10, 7, 2, 1), 2);
        is(faultOf(x, 10, 7, 1, 7), 2);
        is(faultOf(x, 10, 7, 7, 7, 2), 2);
        is(faultOf(x, 10, 7, 1, 2), 2);
    }

    private void plusFactors() {
        Witnesshall x = decided(2, 3, 5, 7);
        for (int n : new int[] {5, 7, 11, 13, 17, 19, 23, 29, 35, 41}) {
            for (int p = 1; p <= 6; p++) {
                for (int q = -6; q <= 6; q++) {
                    if (faultOf(x, 10, n, p, q) == 2) {
                        continue;
                    }
                    for (int factor : new int[] {2, 3, 5, 7}) {
                        boolean isSo = (n + 1) % factor == 0
                            && lucasAt(p, q, (n + 1) / factor, n).gcd(big(n)).equals(ONE);
                        is(faultOf(x, 10, n, p, q, factor) != 3, isSo);
                    }
                }
            }
        }
        is(faultOf(x, 10, 5, 1, -4, 2), 3);
        is(faultOf(x, 10, 127, 1, -1, 3), 3);
    }

    private void plusEnd() {
        Witnesshall x = decided(2, 3, 5, 7);
        is(faultOf(x, 10, 5, 3, 3, 2), 4);
        is(faultOf(x, 10, 5, 3, 3, 3), 4);
        is(faultOf(x, 10, 5, 3, 3, 2, 3), NONE);
        is(faultOf(x, 10, 5, 3, 3, 2, 3, 5), 5);
        is(faultOf(x, 10, 23, 1, -4, 2), NONE);
        is(faultOf(x, 10, 23, 1, -4, 3), 4);
        is(faultOf(x, 10, 127, 1, -1, 2), NONE);
        is(faultOf(x, 10, 7, 1, -1, 2), NONE);
        for (int p = 1; p <= 6; p++) {
            for (int q = -6; q <= 6; q++) {
                if (faultOf(x, 10, 11, p, q) != 2 && faultOf(x, 10, 11, p, q, 2) != 3) {
                    is(faultOf(x, 10, 11, p, q, 2), 4);
                }
            }
        }
        is(faultOf(x, 10, 11, 1, -4, 2), 4);
        is(faultOf(x, 10, 11, 1, -4, 2, 3), NONE);
    }

    private void plusEmpty() {
        Witnesshall x = decided(2);
        is(faultOf(x, 10, 7), 1);
        is(faultOf(x, 10, 7, 1), 2);
        is(faultOf(x, 10, 7, 1, -1), 3);
        is(faultOf(x, 10, 7, 1, -1, 2), NONE);
        is(faultOf(x, 10, 5, 3, 3), 3);
    }

    private void squaresForYes() {
        Witnesshall x = office();
        for (int k = 3; k <= 129; k += 2) {
            x.make(0, 2, k, -1);
            is(x.sheet(11, 0), isLastZero(k) ? NONE : 1);
        }
        is(faultOf(x, 11, 7), NONE);
        is(faultOf(x, 11, 7, 3), 1);
        is(faultOf(x, 11, 3), 0);
    }

    private void threeForYes() {
        Witnesshall x = office();
        for (int e = 2; e <= 128; e *= 2) {
            x.make(0, 2, e, 1);
            is(x.sheet(12, 0), e <= 16 ? NONE : 1);
            x.writeValue(3);
            is(x.fault(), 1);
        }
        is(faultOf(x, 12, 3), 0);
    }

    // ---- texts, and the sheet on the desk

    private void textOfEach() {
        Witnesshall x = office();
        String[] words = {"no divisor", "no power", "no root", "no lucas", "no squares", "no three", "no carmichael",
            "yes small", "yes full", "yes part", "yes plus", "yes squares", "yes three"};
        for (int kind = 0; kind <= 12; kind++) {
            faultOf(x, kind, 11);
            is(x.sheetText(), "11 " + words[kind]);
            faultOf(x, kind, -11, 2, -2, 0, MIN, MAX);
            is(x.sheetText(), "-11 " + words[kind] + " 2 -2 0 -2147483648 2147483647");
            faultOf(x, kind, 0, 1, 2, 3, 4, 5, 6, 7, 8, 9, 10);
            is(x.sheetText(), "0 " + words[kind] + " 1 2 3 4 5 6 7 8 9 10");
        }
        faultOf(x, 8, 11, 2, 2, 5);
        is(x.sheetText(), "11 yes full 2 2 5");
        lay(x, 0, two(130).negate());
        x.sheet(0, 0);
        x.write(0);
        is(x.sheetText(), two(130).negate() + " no divisor " + two(130).negate());
    }

    private void oneSheet() {
        Witnesshall x = office();
        is(x.sheetText(), "");
        x.put(0, 15);
        x.sheet(0, 0);
        is(x.sheetText(), "15 no divisor");
        x.sheet(7, 0);
        is(x.sheetText(), "15 yes small");
        x.put(0, 7);
        x.sheet(7, 0);
        x.file();
        is(x.sheetText(), "");
        noState(x, () -> x.file());
    }

    private void emptyRow() {
        Witnesshall x = office();
        x.put(0, 15);
        x.sheet(0, 0);
        noState(x, () -> x.strike());
        is(x.writeValue(3), 1);
        is(x.writeValue(5), 2);
        is(x.sheet(0, 0), 1);
        noState(x, () -> x.strike());
        is(x.writeValue(3), 1);
        is(x.file(), 0);
        x.put(0, 21);
        x.sheet(0, 0);
        is(x.sheetText(), "21 no divisor");
    }

    private void sheetIsGone() {
        Witnesshall x = office();
        faultOf(x, 8, 11, 2, 2, 5);
        x.put(0, 21);
        x.sheet(0, 0);
        is(x.sheetText(), "21 no divisor");
        is(x.writeValue(3), 1);
        is(x.fault(), NONE);
    }

    private void sheetOfNow() {
        Witnesshall x = office();
        x.put(4, 15);
        x.sheet(0, 4);
        x.put(4, 16);
        is(x.sheetText(), "15 no divisor");
        x.writeValue(3);
        is(x.fault(), NONE);
        x.put(4, 3);
        x.write(4);
        x.put(4, 4);
        is(x.sheetText(), "15 no divisor 3 3");
    }

    private void sheetTold() {
        Witnesshall x = office();
        for (int n = -2; n <= 20; n++) {
            x.put(0, n);
            for (int kind = 0; kind <= 12; kind++) {
                int told = x.sheet(kind, 0);
                is(told, x.fault());
                is(told <= 1, true);
            }
        }
        x.put(0, 7);
        is(x.sheet(7, 0), NONE);
        is(x.sheet(8, 0), 1);
        is(x.sheet(12, 0), 0);
    }

    private void sheetNowhere() {
        Witnesshall x = office();
        for (int place : NO_PLACES) {
            noIndex(x, () -> x.sheet(0, place));
            noIndex(x, () -> x.sheet(13, place));
            noIndex(x, () -> x.sheet(-1, place));
        }
        is(x.sheet(0, 9), 0);
        for (int place : NO_PLACES) {
            noIndex(x, () -> x.sheet(7, place));
        }
    }

    private void sheetKind() {
        Witnesshall x = office();
        for (int kind : new int[] {-1, 13, MIN, MAX}) {
            noArgument(x, () -> x.sheet(kind, 0));
        }
        x.put(0, 5);
        is(x.sheet(0, 0), 1);
        is(x.sheet(12, 0), NONE);
        noArgument(x, () -> x.sheet(13, 0));
    }

    private void writeLast() {
        Witnesshall x = office();
        x.sheet(0, 0);
        for (int place = 0; place <= 9; place++) {
            x.put(place, 10 * place);
            x.write(place);
        }
        is(x.sheetText(), "0 no divisor 0 10 20 30 40 50 60 70 80 90");
    }

    private void writeNowhere() {
        Witnesshall x = office();
        for (int place : NO_PLACES) {
            noIndex(x, () -> x.write(place));
        }
        x.sheet(0, 0);
        for (int place : NO_PLACES) {
            noIndex(x, () -> x.write(place));
        }
        for (int i = 1; i <= 10; i++) {
            is(x.write(9), i);
        }
        for (int place : NO_PLACES) {
            noIndex(x, () -> x.write(place));
        }
    }

    private void writeWithoutSheet() {
        Witnesshall x = office();
        noState(x, () -> x.write(0));
        x.put(0, 7);
        x.sheet(7, 0);
        is(x.write(0), 1);
        is(x.strike(), 0);
        x.file();
        noState(x, () -> x.write(0));
    }

    private void writeEleventh() {
        Witnesshall x = office();
        x.sheet(8, 0);
        for (int i = 1; i <= 9; i++) {
            is(x.writeValue(i), i);
        }
        is(x.write(0), 10);
        noState(x, () -> x.write(0));
        is(x.strike(), 9);
        is(x.write(0), 10);
    }

    private void writeTold() {
        Witnesshall x = office();
        x.sheet(8, 0);
        is(x.write(0), 1);
        is(x.writeValue(1), 2);
        is(x.write(1), 3);
        x.strike();
        is(x.write(1), 3);
    }

    private void writeValueWithoutSheet() {
        Witnesshall x = office();
        noState(x, () -> x.writeValue(0));
        x.put(0, 7);
        x.sheet(7, 0);
        x.file();
        noState(x, () -> x.writeValue(MAX));
    }

    private void writeValueEleventh() {
        Witnesshall x = office();
        x.sheet(8, 0);
        for (int i = 1; i <= 9; i++) {
            is(x.write(0), i);
        }
        is(x.writeValue(MIN), 10);
        noState(x, () -> x.writeValue(0));
        is(x.strike(), 9);
        is(x.writeValue(0), 10);
    }

    private void writeValueTold() {
        Witnesshall x = office();
        x.sheet(8, 0);
        for (int i = 1; i <= 10; i++) {
            is(x.writeValue(-i), i);
        }
        is(x.sheetText(), "0 yes full -1 -2 -3 -4 -5 -6 -7 -8 -9 -10");
    }

    private void strikeWithoutSheet() {
        Witnesshall x = office();
        noState(x, () -> x.strike());
        x.put(0, 15);
        x.sheet(0, 0);
        x.writeValue(3);
        x.file();
        noState(x, () -> x.strike());
    }

    private void strikeOfNone() {
        Witnesshall x = office();
        x.sheet(0, 0);
        noState(x, () -> x.strike());
        x.writeValue(1);
        is(x.strike(), 0);
        noState(x, () -> x.strike());
    }

    private void strikeTold() {
        Witnesshall x = office();
        x.sheet(0, 0);
        for (int i = 1; i <= 10; i++) {
            x.writeValue(i);
        }
        is(x.strike(), 9);
        is(x.sheetText(), "0 no divisor 1 2 3 4 5 6 7 8 9");
        for (int left = 8; left >= 0; left--) {
            is(x.strike(), left);
        }
    }

    // ---- promise 16

    private void fileTakes() {
        Witnesshall x = office();
        faultOf(x, 0, 15, 3);
        is(x.file(), 0);
        is(x.sheetText(), "");
        is(x.paper(0), "15 no divisor 3");
        is(x.ofPaper(0, 2), 2);
        noState(x, () -> x.fault());
    }

    private void fileTold() {
        Witnesshall x = decided(2);
        is(filed(x, 0, 3, 3), -1);
        is(filed(x, 0, 15), -2);
        is(filed(x, 0, 15, 3, 5), -3);
        is(filed(x, 8, 11, 2, 2), -4);
        is(filed(x, 0, 15, 3), 1);
        Witnesshall y = decided(FACTORS_OF_NINE);
        is(filed(y, 8, NINE_LESS, 58, 2, 3, 5, 7, 11, 13, 17, 19, 29), -11);
        is(filed(y, 8, NINE_LESS, 58, 2, 3, 5, 7, 11, 13, 17, 19), -11);
        faultOf(y, 8, NINE_LESS, 58, 2, 3, 5, 7, 11, 13, 17, 19, 23);
        is(y.file(), 9);
        Witnesshall z = decided(FACTORS_OF_NINE);
        z.decide(29);
        is(filed(z, 6, TEN_PRIMES, 11, 13, 19, 29), -6);
    }

    private void fileChangesNothing() {
        Witnesshall x = decided(2);
        faultOf(x, 0, 3, 3);
        isQuietly(x, () -> x.file(), -1);
        faultOf(x, 8, 11, 2, 2);
        isQuietly(x, () -> x.file(), -4);
        is(x.sheetText(), "11 yes full 2 2");
        is(x.count(7), 1);
        x.decide(5);
        is(x.writeValue(5), 3);
        is(x.file(), 2);
    }

    private void fileWithoutSheet() {
        Witnesshall x = office();
        noState(x, () -> x.file());
        faultOf(x, 7, 7);
        x.file();
        noState(x, () -> x.file());
        Witnesshall full = filled(150);
        noState(full, () -> full.file());
    }

    /** Without a FAULT or with one, TRUSTED or LOOSE; another KIND does not matter, nor one that is WITHDRAWN. */
    private void fileOfHeld() {
        Witnesshall x = decided(15);
        faultOf(x, 0, 15, 5);
        noState(x, () -> x.file());
        faultOf(x, 0, 15);
        noState(x, () -> x.file());
        faultOf(x, 1, 15, 2);
        is(x.file(), 1);
        x.withdraw(0);
        faultOf(x, 0, 15, 5);
        is(x.file(), 2);
        faultOf(x, 0, 15, 3);
        noState(x, () -> x.file());
        Witnesshall y = office();
        is(sought(y, 8, 11), 2);
        y.withdraw(0);
        is(y.ofPaper(2, 2), 1);
        y.decide(2);
        faultOf(y, 8, 11, 2, 2, 5);
        noState(y, () -> y.file());
        y.withdraw(3);
        faultOf(y, 8, 11, 2, 2, 5);
        noState(y, () -> y.file());
        faultOf(y, 8, 13, 2, 2, 3);
        is(y.file(), -1 - 2);
    }

    private void fileWithoutRoom() {
        Witnesshall x = filled(149);
        faultOf(x, 7, 907);
        is(x.file(), 149);
        faultOf(x, 7, 911);
        noState(x, () -> x.file());
        faultOf(x, 7, 909);
        noState(x, () -> x.file());
        faultOf(x, 7, 1009);
        noState(x, () -> x.file());
        x.withdraw(0);
        noState(x, () -> x.file());
        x.undo();
        is(x.undo(), 149);
        is(x.file(), -1);
    }

    // ---- promises 33, 34, 41 and 43

    private void faultTold() {
        Witnesshall x = office();
        faultOf(x, 8, 11, 2, 2, 5);
        is(x.fault(), 2);
        x.decide(2);
        is(x.fault(), 3);
        x.decide(5);
        is(x.fault(), NONE);
        x.withdraw(0);
        is(x.fault(), 2);
        x.restore(0);
        x.strike();
        is(x.fault(), 3);
    }

    private void faultWithoutSheet() {
        Witnesshall x = office();
        noState(x, () -> x.fault());
        faultOf(x, 7, 7);
        is(x.fault(), NONE);
        x.file();
        noState(x, () -> x.fault());
    }

    private void sheetTextTold() {
        Witnesshall x = office();
        is(x.sheetText(), "");
        faultOf(x, 2, 15, 4);
        is(x.sheetText(), "15 no root 4");
        x.strike();
        is(x.sheetText(), "15 no root");
        x.writeValue(11);
        x.file();
        is(x.sheetText(), "");
    }

    private void paperTold() {
        Witnesshall x = decided(2, 3, 5, 7, 11, 17);
        int[][] rows = {{0, 15, 3}, {1, 15, 2}, {2, 15, 4}, {3, 85, 1, -3}, {4, 511}, {6, 561, 3, 11, 17}, {8, 11, 2, 2, 5},
            {9, 11, 2, 5}, {10, 5, 3, 3, 2, 3}, {11, 127}, {12, 257}};
        for (int[] row : rows) {
            faultOf(x, row[0], row[1], Arrays.copyOfRange(row, 2, row.length));
            String text = x.sheetText();
            is(x.paper(x.file()), text);
        }
        is(x.paper(0), "2 yes small");
        x.withdraw(0);
        is(x.paper(0), "2 yes small");
    }

    private void paperNowhere() {
        Witnesshall x = office();
        noIndex(x, () -> x.paper(0));
        x.decide(2);
        is(x.paper(0), "2 yes small");
        for (int paper : new int[] {-1, 1, 150, MIN, MAX}) {
            noIndex(x, () -> x.paper(paper));
        }
        x.undo();
        noIndex(x, () -> x.paper(0));
        Witnesshall full = filled(150);
        is(full.paper(149), "151 yes small");
        noIndex(full, () -> full.paper(150));
    }

    private static Witnesshall withEleven() {
        Witnesshall x = decided(2, 5);
        sought(x, 8, 11);
        return x;
    }

    private void damagedSpots() {
        Witnesshall x = withEleven();
        int[] due = {0, 2, 2, 3};
        for (int spot = 0; spot <= 3; spot++) {
            is(x.damaged(2, spot, 1), due[spot]);
        }
        noIndex(x, () -> x.damaged(2, 4, 1));
        noIndex(x, () -> x.damaged(2, -1, 1));
        noIndex(x, () -> x.damaged(0, 1, 1));
        is(x.damaged(0, 0, 1), NONE);
    }

    private void damagedBounds() {
        Witnesshall x = withEleven();
        for (int by : new int[] {-4, 4, MIN, MAX}) {
            noArgument(x, () -> x.damaged(2, 0, by));
        }
        is(x.damaged(2, 2, 3), 3);
        is(x.damaged(2, 3, -3), 3);
        Witnesshall y = office();
        filed(y, 0, 6, 3);
        int[] ofDivisor = {1, 1, NONE, NONE, 1, 1, 1};
        int[] ofNumber = {0, 1, 1, NONE, 1, 1, NONE};
        for (int by = -3; by <= 3; by++) {
            is(y.damaged(0, 1, by), ofDivisor[by + 3]);
            is(y.damaged(0, 0, by), ofNumber[by + 3]);
        }
    }

    private void damagedNow() {
        Witnesshall x = withEleven();
        is(x.damaged(2, 1, 0), NONE);
        is(x.damaged(2, 3, 0), NONE);
        x.withdraw(1);
        is(x.damaged(2, 1, 0), 3);
        x.withdraw(0);
        is(x.damaged(2, 1, 0), 2);
        x.withdraw(2);
        x.decide(2);
        x.decide(5);
        is(x.damaged(2, 1, 0), NONE);
        is(x.ofPaper(2, 2), 0);
    }

    private void damagedReads() {
        Witnesshall x = withEleven();
        faultOf(x, 0, 15, 3);
        isQuietly(x, () -> x.damaged(2, 1, 1), 2);
        isQuietly(x, () -> x.damaged(2, 0, 2), 3);
        isQuietly(x, () -> x.damaged(2, 0, -2), 1);
        Witnesshall y = office();
        y.make(0, 4, 65, -1);
        y.sheet(0, 0);
        y.writeValue(3);
        y.file();
        is(y.damaged(0, 0, 3), NONE);
        is(y.damaged(0, 0, 1), 1);
        is(y.damaged(0, 0, -3), NONE);
        Witnesshall z = decided(2);
        is(z.damaged(0, 0, -1), 0);
        is(z.damaged(0, 0, -3), 0);
        is(z.damaged(0, 0, 2), 1);
        is(z.damaged(0, 0, 3), NONE);
    }

    private void damagedNowhere() {
        Witnesshall x = withEleven();
        for (int paper : new int[] {-1, 3, 150, MIN, MAX}) {
            noIndex(x, () -> x.damaged(paper, 0, 0));
            noIndex(x, () -> x.damaged(paper, 0, 4));
        }
        for (int spot : new int[] {-1, 4, 11, MIN, MAX}) {
            noIndex(x, () -> x.damaged(2, spot, 0));
            noIndex(x, () -> x.damaged(2, spot, 4));
        }
    }

    private void damagedArgument() {
        Witnesshall x = withEleven();
        for (int spot = 0; spot <= 3; spot++) {
            int some = spot;
            noArgument(x, () -> x.damaged(2, some, 4));
            noArgument(x, () -> x.damaged(2, some, -4));
        }
        x.withdraw(2);
        noArgument(x, () -> x.damaged(2, 0, 4));
    }
}
