import java.math.BigInteger;

/** Part 5, and promises 17 to 20: papers by rule. */
final class RuleSentences extends Sentences {
    RuleSentences(Document document, String only) {
        super(document, only);
    }

    @Override
    void all() {
        seeking();
        rules();
        deciding();
        seekBounds();
        decideBounds();
    }

    private void seeking() {
        String s = "part 5";
        sentence(s, "FACTORS of X: the primes that divide it, rising.", this::factors);
        sentence(s, "SEEK of a KIND for n: if n is not what SPOT 0 of that KIND asks, NONE.", this::wrongNumber);
        sentence(s, "If n has a HELD PAPER of that KIND, LOOSE or not: the one with the smallest number; nothing is taken.",
            this::heldIsTold);
        sentence(s, "Otherwise a SHEET is written by RULE; without a FAULT it is taken, and its number told.", this::writtenByRule);
        sentence(s, "If the RULE finds none without a FAULT: NONE, and nothing is changed", this::foundNone);
        sentence(s, "(nor are PAPERS left that were taken on the way)", this::nothingLeft);
        sentence(s, "A call for which there is no room for some PAPER on its way is refused, whatever would have come of it.",
            this::noRoomOnTheWay);
    }

    private void rules() {
        String s = "part 5";
        sentence(s, "0: the least from 2 on that divides n.", this::ruleOfDivisor);
        sentence(s, "1: the least a from 2 to 40 without a FAULT.", this::ruleOfPower);
        sentence(s, "2: of the bases 2 to 40 the first whose ROUND says ROOT: its FINDING.", this::ruleOfRoot);
        sentence(s, "3: the least P from 1 to 3, and for that the least Q from -3 to 3, without a FAULT", this::ruleOfLucas);
        sentence(s, "(so for P of 1 all Q first)", this::ruleOfLucasOrder);
        sentence(s, "4, 5, 7, 11, 12: an empty ROW.", this::ruleOfNone);
        sentence(s, "6: FACTORS of n, each DECIDED before, rising.", this::ruleOfCarmichael);
        sentence(s, "8 to 10: only for a SIFTED n, otherwise NONE.", this::onlySifted);
        sentence(s, "8: FACTORS of n - 1, each DECIDED before, rising; the least a from 2 to 100 without a FAULT.",
            this::ruleOfFull);
        sentence(s, "9: as 8, but of these FACTORS only the greatest, as few as END is content with", this::ruleOfPart);
        sentence(s, "(only these are DECIDED)", this::onlyTheseDecided);
        sentence(s, "10: FACTORS of n + 1, the greatest, as few as END is content with, DECIDED before, rising", this::ruleOfPlus);
        sentence(s, "the least P from 1 to 6, and for that the least Q from -6 to 6, without a FAULT", this::ruleOfPlusPair);
    }

    private void deciding() {
        String s = "part 5";
        sentence(s, "DECIDE n from 2 to 999999: if n has a TRUSTED PAPER, the one with the smallest number is told, and nothing taken.",
            this::trustedIsTold);
        sentence(s, "Otherwise: up to 999: SEEK of 7 if it is SIFTED, of 0 if not.", this::decideSmall);
        sentence(s, "Even ones above: SEEK of 0.", this::decideEven);
        sentence(s, "Odd ones above: the ROUND of 2, and if that is PASSED, of 3", this::decideByRounds);
        sentence(s, "the first that is not PASSED is taken as a PAPER of KIND 1 or 2 (POWER, ROOT) with its FINDING",
            this::decideByFinding);
        sentence(s, "If both are PASSED: FACTORS of n - 1 are DECIDED, rising; then SEEK of 8.", this::decideByFactors);
    }

    private void seekBounds() {
        String s = "promise 17";
        sentence(s, "if there is no such PLACE", this::seekNowhere);
        sentence(s, "if kind is not 0 to 12", this::seekKind);
        sentence(s, "if the NUMBER is greater than 999999 and kind is 0, 3, 6, 7, 8, 9 or 10", this::seekTooGreat);
        sentence(s, "or there is no room for what is to be taken", this::seekWithoutRoom);
        sentence(s, "Returns the number of the PAPER, or NONE.", this::seekTold);
    }

    private void decideBounds() {
        sentence("promise 18", "- value: a NUMBER of 2 to 999999", this::decideEdges);
        sentence("promise 18", "if value is not in its bounds", this::decideArgument);
        sentence("promise 18", "if there is no room for what is to be taken", this::decideWithoutRoom);
        sentence("promise 18", "Returns the number of the PAPER.", this::decideTold);
        sentence("promise 19", "DECIDES the NUMBERS greater than value, rising, without even ones above 2, till one of them IS YES.",
            this::nextDecides);
        sentence("promise 19", "- value: 1 to 999900", this::nextEdges);
        sentence("promise 19", "if value is not in its bounds", this::nextArgument);
        sentence("promise 19", "if there is no room for what is to be taken", this::nextWithoutRoom);
        sentence("promise 19", "Returns that one.", this::nextTold);
        sentence("promise 20", "if the NUMBER has a HELD one of that KIND, it is not", this::accuseHeld);
        sentence("promise 20", "- base: 2 to 1000", this::accuseBounds);
        sentence("promise 20", "if there is no such PLACE", this::accuseNowhere);
        sentence("promise 20", "if base is not in its bounds", this::accuseArgument);
        sentence("promise 20", "if the NUMBER is not FIT", this::accuseUnfit);
        sentence("promise 20", "or there is no room for what is to be taken", this::accuseWithoutRoom);
        sentence("promise 20", "Returns the number of the PAPER (of the HELD one: that with the smallest number), or NONE, if it is PASSED.",
            this::accuseTold);
    }

    /** What the papers of an office tell, one after the other. */
    private static String texts(Witnesshall x) {
        StringBuilder all = new StringBuilder();
        for (int paper = 0; paper < x.count(0); paper++) {
            all.append(paper == 0 ? "" : "; ").append(x.paper(paper));
        }
        return all.toString();
    }

    private static String allSought(int kind, int n) {
        Witnesshall x = office();
        sought(x, kind, n);
        return texts(x);
    }

    // ---- seeking

    private void factors() {
        is(allSought(8, 211), "2 yes small; 3 yes small; 5 yes small; 7 yes small; 211 yes full 2 2 3 5 7");
        is(allSought(8, 17), "2 yes small; 17 yes full 3 2");
        is(allSought(8, 19), "2 yes small; 3 yes small; 19 yes full 2 2 3");
        is(allSought(6, 561), "3 yes small; 11 yes small; 17 yes small; 561 no carmichael 3 11 17");
        is(allSought(8, 999983).endsWith("999983 yes full 5 2 79 6329"), true);
    }

    private void wrongNumber() {
        int[][] wrong = {{3, 2, 1, 0, -4}, {3, 4, 8, 1, -9}, {3, 4, 8, 1, -15}, {3, 4, 8, -7}, {3, 1, 15, 8, 6, -7}, {3, 9, 65, 2, -5},
            {3, 4, 560, -7}, {1, 0, 1000, 1009, -7}, {3, 4, 8, -7}, {3, 4, 8, -7}, {3, 4, 8, -7}, {3, 1, 15, 8, -7}, {3, 9, 4097, 2, -17}};
        for (Witnesshall x : new Witnesshall[] {office(), filled(150)}) {
            for (int kind = 0; kind <= 12; kind++) {
                for (int n : wrong[kind]) {
                    int some = kind;
                    x.put(0, n);
                    isQuietly(x, () -> x.seek(some, 0), NONE);
                }
            }
            lay(x, 0, two(130).negate());
            for (int kind = 0; kind <= 12; kind++) {
                int some = kind;
                isQuietly(x, () -> x.seek(some, 0), NONE);
            }
            lay(x, 0, two(129));
            for (int kind : new int[] {1, 2, 4, 5, 11, 12}) {
                isQuietly(x, () -> x.seek(kind, 0), NONE);
            }
        }
    }

    private void heldIsTold() {
        Witnesshall x = office();
        is(sought(x, 8, 11), 2);
        isQuietly(x, () -> x.seek(8, 0), 2);
        x.withdraw(0);
        x.withdraw(1);
        is(x.ofPaper(2, 2), 1);
        isQuietly(x, () -> x.seek(8, 0), 2);
        x.withdraw(2);
        is(x.seek(8, 0), 5);
        is(x.paper(3), "2 yes small");
        x.withdraw(5);
        x.restore(2);
        isQuietly(x, () -> x.seek(8, 0), 2);
        filed(x, 9, 11, 2, 2, 5);
        x.put(0, 11);
        isQuietly(x, () -> x.seek(9, 0), 6);
        filed(x, 0, 15, 5);
        x.put(0, 15);
        isQuietly(x, () -> x.seek(0, 0), 7);
        heldWithoutRoom();
    }

    /** A LOOSE paper is told even where there is no room to decide what it hangs on. */
    private void heldWithoutRoom() {
        Witnesshall x = filled(147);
        is(sought(x, 6, 561), 147);
        is(sought(x, 8, 151), 148);
        is(sought(x, 10, 167), 149);
        x.withdraw(0);
        x.withdraw(1);
        is(x.ofPaper(147, 2), 1);
        x.put(0, 561);
        isQuietly(x, () -> x.seek(6, 0), 147);
        x.put(0, 151);
        isQuietly(x, () -> x.seek(8, 0), 148);
        noState(x, () -> x.seek(9, 0));
        noState(x, () -> x.decide(2));
    }

    private void writtenByRule() {
        Witnesshall x = office();
        is(sought(x, 0, 15), 0);
        is(x.paper(0), "15 no divisor 3");
        is(x.ofPaper(0, 2), 2);
        is(x.count(7), 1);
        is(sought(x, 1, 15), 1);
        is(sought(x, 8, 13), 4);
        is(x.count(7), 3);
        is(x.paper(4), "13 yes full 2 2 3");
    }

    private void foundNone() {
        Witnesshall x = office();
        int[][] none = {{7, 11, 5, 999983}, {7, 11, 252601}, {7, 9, 25, 609}, {7, 9, 15, 175}, {7, 31, 127}, {5, 17, 257}, {15, 45, 9},
            {4, 999, 998}, {9, 15, 999999}, {9, 15, 341}, {9, 15, 53759}, {511, 2047}, {}};
        for (int kind = 0; kind <= 12; kind++) {
            for (int n : none[kind]) {
                int some = kind;
                x.put(0, n);
                isQuietly(x, () -> x.seek(some, 0), NONE);
            }
        }
        x.make(0, 2, 64, 1);
        isQuietly(x, () -> x.seek(12, 0), NONE);
        is(x.seek(5, 0), 0);
        x.make(0, 2, 127, -1);
        for (int kind : new int[] {1, 2, 4}) {
            isQuietly(x, () -> x.seek(kind, 0), NONE);
        }
    }

    private void nothingLeft() {
        Witnesshall x = office();
        for (int n : new int[] {15, 7, 999983, 999999, 5, 9, 45}) {
            x.put(0, n);
            isQuietly(x, () -> x.seek(6, 0), NONE);
        }
        x.put(0, 53759);
        isQuietly(x, () -> x.seek(10, 0), NONE);
        x.put(0, 279551);
        isQuietly(x, () -> x.seek(10, 0), NONE);
        is(x.count(0), 0);
        is(x.count(7), 0);
        x.decide(13);
        isQuietly(x, () -> x.seek(10, 0), NONE);
        is(x.decide(2), 1);
    }

    /** Where nothing would be taken in the end, too. */
    private void noRoomOnTheWay() {
        Witnesshall x = filled(150);
        x.put(0, 907);
        noState(x, () -> x.seek(6, 0));
        x.put(0, 907 * 3);
        noState(x, () -> x.seek(6, 0));
        x.put(0, 1571);
        noState(x, () -> x.seek(8, 0));
        noState(x, () -> x.seek(9, 0));
        x.put(0, 53759);
        isQuietly(x, () -> x.seek(10, 0), NONE);
        x.withdraw(5);
        noState(x, () -> x.seek(10, 0));
        Witnesshall y = filled(149);
        y.put(0, 907);
        isQuietly(y, () -> y.seek(6, 0), NONE);
        y.put(0, 907 * 911);
        noState(y, () -> y.seek(6, 0));
        y.put(0, 1571);
        noState(y, () -> y.seek(8, 0));
        noState(y, () -> y.decide(1571));
        is(verdict(y, 157), NONE);
        Witnesshall z = filled(148);
        z.put(0, 907 * 911);
        isQuietly(z, () -> z.seek(6, 0), NONE);
        is(z.decide(1571), 149);
        is(z.paper(148), "157 yes small");
        is(z.count(7), 30);
        is(z.undo(), 148);
    }

    // ---- the rules

    private void ruleOfDivisor() {
        Witnesshall x = office();
        int[][] due = {{4, 2}, {6, 2}, {9, 3}, {15, 3}, {25, 5}, {35, 5}, {49, 7}, {999999, 3}, {994009, 997}, {999998, 2}, {988027, 991}};
        for (int[] pair : due) {
            is(found(x, 0, pair[0]), pair[0] + " no divisor " + pair[1]);
        }
        is(found(x, 0, 5), "");
        is(found(x, 0, 999983), "");
    }

    private void ruleOfPower() {
        Witnesshall x = office();
        is(found(x, 1, 9), "9 no power 2");
        is(found(x, 1, 341), "341 no power 3");
        is(found(x, 1, 1105), "1105 no power 5");
        is(found(x, 1, 1729), "1729 no power 7");
        is(found(x, 1, 294409), "294409 no power 37");
        is(found(x, 1, 252601), "");
        is(faultOf(x, 1, 252601, 41), NONE);
        is(found(x, 1, 7), "");
        x.make(0, 2, 101, -1);
        is(x.paper(x.seek(1, 0)), two(101).subtract(ONE) + " no power 3");
    }

    private void ruleOfRoot() {
        Witnesshall x = office();
        is(found(x, 2, 341), "341 no root 32");
        is(found(x, 2, 1729), "1729 no root 1065");
        is(x.round(0, 3), 2);
        is(found(x, 2, 91), "91 no root 27");
        is(found(x, 2, 15), "15 no root 4");
        is(found(x, 2, 123), "123 no root 40");
        is(found(x, 2, 95), "95 no root 39");
        is(found(x, 2, 609), "");
        x.put(0, 609);
        is(x.round(0, 41), 2);
        is(found(x, 2, 9), "");
        is(found(x, 2, 129), "");
        x.put(0, 129);
        is(x.round(0, 44), 2);
    }

    private void ruleOfLucas() {
        Witnesshall x = office();
        is(found(x, 3, 85), "85 no lucas 1 -3");
        is(found(x, 3, 12403), "12403 no lucas 1 3");
        is(found(x, 3, 221), "221 no lucas 3 -3");
        is(found(x, 3, 511), "511 no lucas 2 3");
        is(found(x, 3, 1111), "1111 no lucas 3 -2");
        is(found(x, 3, 175), "");
        is(found(x, 3, 1687), "");
        is(faultOf(x, 3, 1687, 1, 4), NONE);
        is(found(x, 3, 21667), "");
        is(faultOf(x, 3, 21667, 2, -4), NONE);
        int fours = 0;
        for (int q = -3; q <= 3; q++) {
            fours += faultOf(x, 3, 175, 4, q) == NONE ? 1 : 0;
        }
        is(fours > 0, true);
    }

    private void ruleOfLucasOrder() {
        Witnesshall x = office();
        is(faultOf(x, 3, 703, 3, -3), NONE);
        is(found(x, 3, 703), "703 no lucas 1 2");
        is(faultOf(x, 3, 13051, 3, -3), NONE);
        is(found(x, 3, 13051), "13051 no lucas 2 -2");
    }

    private void ruleOfNone() {
        Witnesshall x = office();
        is(found(x, 4, 511), "511 no squares");
        is(found(x, 4, 127), "");
        x.make(0, 2, 32, 1);
        is(x.paper(x.seek(5, 0)), "4294967297 no three");
        is(found(x, 7, 997), "997 yes small");
        is(found(x, 7, 2), "2 yes small");
        is(found(x, 7, 999), "");
        is(found(x, 11, 127), "127 yes squares");
        is(found(x, 12, 65537), "65537 yes three");
        is(x.count(0), 6);
        for (int paper = 0; paper < 6; paper++) {
            is(x.ofPaper(paper, 3), 0);
        }
    }

    private void ruleOfCarmichael() {
        is(allSought(6, 1105), "5 yes small; 13 yes small; 17 yes small; 1105 no carmichael 5 13 17");
        is(allSought(6, 6601), "7 yes small; 23 yes small; 41 yes small; 6601 no carmichael 7 23 41");
        Witnesshall x = decided(41, 7);
        is(found(x, 6, 6601), "6601 no carmichael 7 23 41");
        is(texts(x), "41 yes small; 7 yes small; 23 yes small; 6601 no carmichael 7 23 41");
        is(allSought(6, 825265), "5 yes small; 7 yes small; 17 yes small; 19 yes small; 73 yes small; "
            + "825265 no carmichael 5 7 17 19 73");
    }

    /** Nothing is decided for others, so that room is not asked for either. */
    private void onlySifted() {
        for (Witnesshall x : new Witnesshall[] {office(), filled(150)}) {
            for (int n : new int[] {9, 15, 25, 341, 561, 1105, 999999, 994009, 2047}) {
                for (int kind = 8; kind <= 10; kind++) {
                    int some = kind;
                    x.put(0, n);
                    isQuietly(x, () -> x.seek(some, 0), NONE);
                }
            }
        }
    }

    private void ruleOfFull() {
        is(allSought(8, 5), "2 yes small; 5 yes full 2 2");
        is(allSought(8, 41), "2 yes small; 5 yes small; 41 yes full 6 2 5");
        is(allSought(8, 71), "2 yes small; 5 yes small; 7 yes small; 71 yes full 7 2 5 7");
        is(allSought(8, 110881), "2 yes small; 3 yes small; 5 yes small; 7 yes small; 11 yes small; 110881 yes full 69 2 3 5 7 11");
        is(allSought(8, 760321), "2 yes small; 3 yes small; 5 yes small; 11 yes small; 760321 yes full 73 2 3 5 11");
        Witnesshall x = decided(5);
        sought(x, 8, 41);
        is(texts(x), "5 yes small; 2 yes small; 41 yes full 6 2 5");
    }

    private void ruleOfPart() {
        is(allSought(9, 5), "2 yes small; 5 yes part 2 2");
        is(allSought(9, 7), "3 yes small; 7 yes part 2 3");
        is(allSought(9, 13), "3 yes small; 13 yes part 2 3");
        is(allSought(9, 31), "5 yes small; 31 yes part 2 5");
        is(allSought(9, 41), "2 yes small; 5 yes small; 41 yes part 6 2 5");
        is(allSought(9, 73), "3 yes small; 73 yes part 2 3");
        is(allSought(9, 97), "2 yes small; 3 yes small; 97 yes part 5 2 3");
        is(allSought(9, 1009), "3 yes small; 7 yes small; 1009 yes part 2 3 7");
        is(allSought(9, 979969).endsWith("979969 yes part 41 2 3 11 29"), true);
    }

    private void onlyTheseDecided() {
        is(allSought(9, 43), "7 yes small; 43 yes part 2 7");
        is(allSought(9, 1571), "157 yes small; 1571 yes part 2 157");
        is(allSought(10, 1009), "101 yes small; 1009 yes plus 1 -4 101");
        Witnesshall x = filled(148);
        x.withdraw(0);
        is(sought(x, 9, 1571), 149);
        is(verdict(x, 2), NONE);
    }

    private void ruleOfPlus() {
        is(allSought(10, 5), "2 yes small; 3 yes small; 5 yes plus 1 -3 2 3");
        is(allSought(10, 7), "2 yes small; 7 yes plus 1 -4 2");
        is(allSought(10, 11), "2 yes small; 3 yes small; 11 yes plus 1 -4 2 3");
        is(allSought(10, 17), "3 yes small; 17 yes plus 1 -1 3");
        is(allSought(10, 29), "3 yes small; 5 yes small; 29 yes plus 1 -5 3 5");
        is(allSought(10, 31), "2 yes small; 31 yes plus 1 -5 2");
        is(allSought(10, 797), "7 yes small; 19 yes small; 797 yes plus 1 6 7 19");
        is(allSought(10, 999983), "83 yes small; 251 yes small; 999983 yes plus 1 -1 83 251");
    }

    private void ruleOfPlusPair() {
        Witnesshall x = office();
        is(found(x, 10, 6911), "6911 yes plus 2 -6 2 3");
        is(found(x, 10, 797), "797 yes plus 1 6 7 19");
        is(found(x, 10, 47), "47 yes plus 2 5 2 3");
        is(found(x, 10, 202751), "202751 yes plus 5 -1 2 3 11");
        is(faultOf(x, 10, 202751, 1, -7, 2, 3, 11), NONE);
        is(found(x, 10, 99839), "99839 yes plus 5 -3 2 3 5 13");
        is(found(x, 10, 279551), "");
        for (int q : new int[] {2, 3, 7, 13}) {
            x.decide(q);
        }
        is(faultOf(x, 10, 279551, 7, -5, 2, 3, 7, 13), NONE);
        is(found(x, 10, 53759), "");
    }

    // ---- deciding

    private void trustedIsTold() {
        Witnesshall x = decided(2, 3, 5);
        filed(x, 8, 11, 2, 2, 5);
        isQuietly(x, () -> x.decide(11), 3);
        filed(x, 9, 11, 2, 5);
        isQuietly(x, () -> x.decide(11), 3);
        x.withdraw(0);
        is(x.ofPaper(3, 2), 1);
        isQuietly(x, () -> x.decide(11), 4);
        x.withdraw(2);
        is(x.decide(11), 5);
        is(x.paper(5), "11 yes small");
        x.restore(0);
        x.restore(2);
        isQuietly(x, () -> x.decide(11), 3);
        Witnesshall y = office();
        filed(y, 1, 15, 2);
        filed(y, 0, 15, 5);
        isQuietly(y, () -> y.decide(15), 0);
        y.withdraw(0);
        isQuietly(y, () -> y.decide(15), 1);
        Witnesshall z = decided(2, 3, 7, 1009);
        z.withdraw(1);
        is(z.ofPaper(3, 2), 1);
        is(z.decide(1009), 3);
        is(z.count(0), 5);
        is(z.paper(4), "3 yes small");
        Witnesshall full = filled(150);
        isQuietly(full, () -> full.decide(151), 149);
        isQuietly(full, () -> full.decide(2), 0);
    }

    private void decideSmall() {
        Witnesshall x = office();
        is(x.paper(x.decide(2)), "2 yes small");
        is(x.paper(x.decide(3)), "3 yes small");
        is(x.paper(x.decide(4)), "4 no divisor 2");
        is(x.paper(x.decide(9)), "9 no divisor 3");
        is(x.paper(x.decide(341)), "341 no divisor 11");
        is(x.paper(x.decide(997)), "997 yes small");
        is(x.paper(x.decide(998)), "998 no divisor 2");
        is(x.paper(x.decide(999)), "999 no divisor 3");
        is(x.count(0), 8);
    }

    private void decideEven() {
        Witnesshall x = office();
        is(x.paper(x.decide(1000)), "1000 no divisor 2");
        is(x.paper(x.decide(1002)), "1002 no divisor 2");
        is(x.paper(x.decide(999998)), "999998 no divisor 2");
        is(x.count(0), 3);
    }

    private void decideByRounds() {
        Witnesshall x = office();
        is(x.paper(x.decide(1001)), "1001 no power 2");
        is(x.paper(x.decide(1003)), "1003 no power 2");
        is(x.paper(x.decide(999999)), "999999 no power 2");
        is(x.paper(x.decide(2047)), "2047 no power 3");
        is(x.paper(x.decide(3277)), "3277 no power 3");
        is(x.count(0), 5);
        x.put(0, 2047);
        is(x.round(0, 2), 0);
    }

    private void decideByFinding() {
        Witnesshall x = office();
        is(x.paper(x.decide(1729)), "1729 no root 1065");
        is(x.paper(x.decide(1105)), "1105 no root 781");
        is(x.paper(x.decide(15841)), "15841 no root 218");
        is(x.paper(x.decide(2047)), "2047 no power 3");
        is(x.paper(x.decide(1001)), "1001 no power 2");
        is(x.ofPaper(0, 0), 2);
        is(x.ofPaper(3, 0), 1);
    }

    private void decideByFactors() {
        Witnesshall x = office();
        is(x.decide(1009), 3);
        is(texts(x), "2 yes small; 3 yes small; 7 yes small; 1009 yes full 11 2 3 7");
        Witnesshall y = office();
        is(y.decide(999983), 5);
        is(texts(y), "2 yes small; 79 yes small; 7 yes small; 113 yes small; 6329 yes full 3 2 7 113; 999983 yes full 5 2 79 6329");
        is(y.count(7), 1);
        Witnesshall z = decided(2, 3, 7);
        filed(z, 8, 1009, 11, 2, 3, 7);
        z.withdraw(0);
        is(z.ofPaper(3, 2), 1);
        is(z.decide(1009), 3);
        is(texts(z), "2 yes small; 3 yes small; 7 yes small; 1009 yes full 11 2 3 7; 2 yes small");
    }

    // ---- promise 17

    private void seekNowhere() {
        Witnesshall x = office();
        for (int place : NO_PLACES) {
            noIndex(x, () -> x.seek(0, place));
            noIndex(x, () -> x.seek(13, place));
            noIndex(x, () -> x.seek(-1, place));
        }
        x.put(9, 7);
        is(x.seek(7, 9), 0);
    }

    private void seekKind() {
        Witnesshall x = office();
        x.put(0, 1000000);
        for (int kind : new int[] {-1, 13, MIN, MAX}) {
            noArgument(x, () -> x.seek(kind, 0));
            noArgument(x, () -> x.seek(kind, 1));
        }
        x.put(0, 5);
        is(x.seek(12, 0), 0);
        is(x.seek(0, 0), NONE);
        Witnesshall full = filled(150);
        noArgument(full, () -> full.seek(13, 0));
    }

    private void seekTooGreat() {
        Witnesshall x = office();
        for (BigInteger n : new BigInteger[] {big(1000000), big(1000003), big(1 << 30), two(129), two(127).subtract(ONE)}) {
            lay(x, 0, n);
            for (int kind : new int[] {0, 3, 6, 7, 8, 9, 10}) {
                noState(x, () -> x.seek(kind, 0));
            }
        }
        x.put(0, 1000000);
        for (int kind : new int[] {1, 2, 4, 5, 11, 12}) {
            is(x.seek(kind, 0), NONE);
        }
        x.put(0, 1000001);
        is(x.seek(1, 0), 0);
        x.put(0, 999999);
        is(x.seek(0, 0), 1);
        for (int kind : new int[] {3, 6, 7, 8, 9, 10}) {
            is(x.seek(kind, 0), NONE);
        }
        for (int n : new int[] {-1000000, MIN}) {
            x.put(0, n);
            for (int kind = 0; kind <= 12; kind++) {
                is(x.seek(kind, 0), NONE);
            }
        }
        for (int q : new int[] {2, 3, 166667}) {
            x.decide(q);
        }
        is(filed(x, 9, 1000003, 2, 166667) > 0, true);
        x.put(0, 1000003);
        noState(x, () -> x.seek(9, 0));
    }

    private void seekWithoutRoom() {
        Witnesshall x = filled(149);
        x.put(0, 907);
        is(x.seek(7, 0), 149);
        x.put(0, 911);
        noState(x, () -> x.seek(7, 0));
        x.put(0, 155);
        noState(x, () -> x.seek(0, 0));
        noState(x, () -> x.seek(1, 0));
        x.put(0, 341);
        noState(x, () -> x.seek(2, 0));
        x.put(0, 85);
        noState(x, () -> x.seek(3, 0));
        x.put(0, 511);
        noState(x, () -> x.seek(4, 0));
        x.put(0, 561);
        noState(x, () -> x.seek(6, 0));
        x.put(0, 11);
        noState(x, () -> x.seek(8, 0));
        noState(x, () -> x.seek(9, 0));
        noState(x, () -> x.seek(10, 0));
        isQuietly(x, () -> x.seek(0, 0), NONE);
        isQuietly(x, () -> x.seek(7, 0), 9);
        x.put(0, 127);
        noState(x, () -> x.seek(11, 0));
        isQuietly(x, () -> x.seek(4, 0), NONE);
        x.put(0, 257);
        noState(x, () -> x.seek(12, 0));
        isQuietly(x, () -> x.seek(5, 0), NONE);
        x.make(0, 2, 32, 1);
        noState(x, () -> x.seek(5, 0));
    }

    private void seekTold() {
        Witnesshall x = office();
        is(sought(x, 8, 7), 2);
        is(sought(x, 7, 7), 3);
        is(sought(x, 0, 7), NONE);
        is(sought(x, 7, 3), 1);
    }

    // ---- promises 18 to 20

    private void decideEdges() {
        Witnesshall x = office();
        is(x.decide(2), 0);
        is(x.decide(999999), 1);
        for (int value : new int[] {1, 1000000, 0, -2, MIN, MAX}) {
            noArgument(x, () -> x.decide(value));
        }
    }

    private void decideArgument() {
        Witnesshall full = filled(150);
        noArgument(full, () -> full.decide(1));
        noArgument(full, () -> full.decide(1000000));
        Witnesshall x = decided(2);
        noArgument(x, () -> x.decide(1));
    }

    private void decideWithoutRoom() {
        Witnesshall x = filled(150);
        noState(x, () -> x.decide(152));
        noState(x, () -> x.decide(1001));
        noState(x, () -> x.decide(1009));
        noState(x, () -> x.decide(1000));
        isQuietly(x, () -> x.decide(100), 98);
        Witnesshall y = filled(149);
        noState(y, () -> y.decide(1571));
        noState(y, () -> y.decide(999983));
        is(y.decide(1009), 149);
        Witnesshall z = filled(148);
        is(z.decide(1571), 149);
        noState(z, () -> z.decide(6329));
        Witnesshall last = filled(148);
        is(last.decide(6329), 148);
        is(last.decide(999983), 149);
    }

    private void decideTold() {
        Witnesshall x = office();
        is(x.decide(7), 0);
        is(x.decide(9), 1);
        is(x.decide(1009), 4);
        is(x.decide(7), 0);
        is(x.decide(3), 3);
        is(x.decide(2), 2);
    }

    private void nextDecides() {
        Witnesshall x = office();
        is(x.next(1), 2);
        is(x.next(2), 3);
        is(x.next(3), 5);
        is(x.next(7), 11);
        is(x.next(23), 29);
        is(texts(x), "2 yes small; 3 yes small; 5 yes small; 9 no divisor 3; 11 yes small; 25 no divisor 5; 27 no divisor 3; "
            + "29 yes small");
        Witnesshall y = office();
        is(y.next(8), 11);
        is(texts(y), "9 no divisor 3; 11 yes small");
        is(y.count(7), 1);
        isQuietly(y, () -> y.next(8), 11);
        y.withdraw(1);
        is(y.next(9), 11);
        is(y.paper(2), "11 yes small");
    }

    private void nextEdges() {
        Witnesshall x = office();
        is(x.next(1), 2);
        is(x.next(999900), 999907);
        for (int value : new int[] {0, 999901, -1, MIN, MAX}) {
            noArgument(x, () -> x.next(value));
        }
    }

    private void nextArgument() {
        Witnesshall full = filled(150);
        noArgument(full, () -> full.next(0));
        noArgument(full, () -> full.next(999901));
        noArgument(full, () -> full.next(1000000));
    }

    private void nextWithoutRoom() {
        Witnesshall x = filled(148);
        noState(x, () -> x.next(151));
        is(x.next(150), 151);
        is(x.count(0), 149);
        Witnesshall y = filled(147);
        is(y.next(151), 157);
        is(y.count(0), 150);
        isQuietly(y, () -> y.next(151), 157);
        isQuietly(y, () -> y.next(1), 2);
        isQuietly(y, () -> y.next(138), 139);
        noState(y, () -> y.next(157));
        noState(y, () -> y.next(149));
        is(y.undo(), 147);
    }

    private void nextTold() {
        Witnesshall x = office();
        int[] primes = {2, 3, 5, 7, 11, 13, 17, 19, 23, 29, 31};
        int value = 1;
        for (int prime : primes) {
            for (; value < prime; value++) {
                is(x.next(value), prime);
            }
        }
        is(x.next(990), 991);
        is(x.next(997), 1009);
    }

    private void accuseHeld() {
        Witnesshall x = office();
        x.put(0, 341);
        is(x.accuse(0, 3), 0);
        isQuietly(x, () -> x.accuse(0, 5), 0);
        isQuietly(x, () -> x.accuse(0, 3), 0);
        is(x.accuse(0, 2), 1);
        isQuietly(x, () -> x.accuse(0, 8), 1);
        x.withdraw(0);
        is(x.accuse(0, 5), 2);
        is(x.paper(2), "341 no power 5");
        Witnesshall full = filled(149);
        full.put(0, 341);
        is(full.accuse(0, 3), 149);
        isQuietly(full, () -> full.accuse(0, 5), 149);
        noState(full, () -> full.accuse(0, 2));
    }

    private void accuseBounds() {
        Witnesshall x = office();
        x.put(0, 25);
        is(x.accuse(0, 2), 0);
        is(x.accuse(0, 1000), NONE);
        x.put(0, 27);
        is(x.accuse(0, 1000), NONE);
        x.put(0, 21);
        is(x.accuse(0, 1000), 1);
        is(x.paper(1), "21 no root 13");
        for (int base : new int[] {1, 1001, 0, -2, MIN, MAX}) {
            noArgument(x, () -> x.accuse(0, base));
        }
    }

    private void accuseNowhere() {
        Witnesshall x = office();
        for (int place : NO_PLACES) {
            noIndex(x, () -> x.accuse(place, 2));
            noIndex(x, () -> x.accuse(place, 1));
        }
        x.put(9, 9);
        is(x.accuse(9, 2), 0);
    }

    private void accuseArgument() {
        Witnesshall x = office();
        noArgument(x, () -> x.accuse(0, 1));
        noArgument(x, () -> x.accuse(0, 1001));
        Witnesshall full = filled(150);
        full.put(0, 341);
        noArgument(full, () -> full.accuse(0, 1));
        noArgument(full, () -> full.accuse(0, 1001));
    }

    private void accuseUnfit() {
        Witnesshall x = office();
        for (int n : new int[] {3, 4, 6, 2, 1, 0, -5, -9, 1000, MIN}) {
            x.put(0, n);
            noState(x, () -> x.accuse(0, 2));
        }
        x.put(0, 5);
        is(x.accuse(0, 2), NONE);
        x.put(0, 9);
        is(x.accuse(0, 2), 0);
    }

    private void accuseWithoutRoom() {
        Witnesshall x = filled(149);
        x.put(0, 341);
        is(x.accuse(0, 2), 149);
        noState(x, () -> x.accuse(0, 3));
        isQuietly(x, () -> x.accuse(0, 4), NONE);
        isQuietly(x, () -> x.accuse(0, 2), 149);
        x.put(0, 4);
        noState(x, () -> x.accuse(0, 3));
    }

    private void accuseTold() {
        Witnesshall x = decided(2, 3);
        x.put(0, 341);
        isQuietly(x, () -> x.accuse(0, 4), NONE);
        isQuietly(x, () -> x.accuse(0, 340), NONE);
        is(x.accuse(0, 2), 2);
        is(x.accuse(0, 3), 3);
        isQuietly(x, () -> x.accuse(0, 2), 2);
        isQuietly(x, () -> x.accuse(0, 3), 3);
        x.put(0, 11);
        isQuietly(x, () -> x.accuse(0, 2), NONE);
    }
}
