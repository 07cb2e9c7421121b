import java.util.Arrays;

/** Part 4, and promises 21, 22, 42 and 44 to 47: what papers say, and what they hang on. */
final class PaperSentences extends Sentences {
    private static final int WITHDRAWN = 0;
    private static final int LOOSE = 1;
    private static final int TRUSTED = 2;

    PaperSentences(Document document, String only) {
        super(document, only);
    }

    @Override
    void all() {
        papers();
        following();
        holding();
        asking();
        between();
    }

    private void papers() {
        String s = "part 4";
        sentence(s, "A SHEET without a FAULT can be taken as a PAPER", this::takenWithoutFault);
        sentence(s, "PAPERS are numbered from 0 as they are taken", this::numberedAsTaken);
        sentence(s, "at most 150 (that is the room)", this::roomOfAll);
        sentence(s, "It is HELD, till it is WITHDRAWN.", this::held);
        sentence(s, "HANGS on: each q of its ROW (KINDS 6, 8, 9, 10", this::hangsOnFactors);
        sentence(s, "all others on none", this::hangsOnNone);
        sentence(s, "TRUSTED: HELD, and each NUMBER that it HANGS on IS YES.", this::trusted);
        sentence(s, "A NUMBER IS YES (IS NO) if it has a TRUSTED PAPER for YES (for NO).", this::yesOrNo);
        sentence(s, "this is settled from the smallest NUMBER on, and ever anew", this::settledAnew);
        sentence(s, "LOOSE: HELD and not TRUSTED.", this::loose);
        sentence(s, "VERDICT of a NUMBER: 1 if it IS YES, 0 if it IS NO, otherwise NONE.", this::verdicts);
    }

    private void following() {
        String s = "part 4";
        sentence(s, "The FIRST of a NUMBER that IS YES: its TRUSTED PAPER for YES with the smallest number.", this::first);
        sentence(s, "UNDER a TRUSTED PAPER are the NUMBERS that it HANGS on, and all that are UNDER the FIRST of each of these.",
            this::underTrusted);
        sentence(s, "DEPTH of a TRUSTED PAPER: 0 if it HANGS on none", this::depthOfNone);
        sentence(s, "otherwise 1 more than the greatest DEPTH of the FIRST ones of what it HANGS on", this::depths);
        sentence(s, "(UNDER one that is not TRUSTED is nothing; its DEPTH is NONE.)", this::underLoose);
        sentence(s, "PROVED between two NUMBERS: each odd NUMBER from 3 on", this::provedFromThree);
        sentence(s, "that is between them, without both", this::provedWithoutBoth);
        sentence(s, "without both, IS NO.", this::provedByNo);
        sentence(s, "TWINS: p and p + 2 that both ARE YES.", this::twins);
        sentence(s, "The GUARD at the door has REFUSED some (counted).", this::guard);
    }

    private void holding() {
        sentence("promise 21", "if there is no such PAPER", this::withdrawNowhere);
        sentence("promise 21", "if it is WITHDRAWN", this::withdrawAgain);
        sentence("promise 21", "Returns how many are LOOSE then.", this::withdrawTold);
        sentence("promise 22", "if there is no such PAPER", this::restoreNowhere);
        sentence("promise 22", "if it is HELD", this::restoreHeld);
        sentence("promise 22", "or its NUMBER has a HELD one of its KIND", this::restoreBesideHeld);
        sentence("promise 22", "Returns how many are LOOSE then.", this::restoreTold);
    }

    private void asking() {
        String s = "promise 42";
        sentence(s, "- what: 0 its KIND", this::ofPaperKind);
        sentence(s, "1 1 if it is for YES, otherwise 0", this::ofPaperYes);
        sentence(s, "2 0 if it is WITHDRAWN, 1 if LOOSE, 2 if TRUSTED", this::ofPaperStanding);
        sentence(s, "3 how many are in its ROW", this::ofPaperRow);
        sentence(s, "4 DEPTH", this::ofPaperDepth);
        sentence(s, "5 how many NUMBERS are UNDER it", this::ofPaperUnder);
        sentence(s, "6 FOLD of its NUMBER", this::ofPaperFold);
        sentence(s, "if there is no such PAPER", this::ofPaperNowhere);
        sentence(s, "if what is not 0 to 6", this::ofPaperWhat);
        sentence(s, "Returns that.", this::ofPaperTold);
        sentence("promise 44", "if there is no such PAPER or PLACE", this::hangsNowhere);
        sentence("promise 44", "Returns whether its NUMBER is UNDER the PAPER.", this::hangsTold);
        sentence("promise 45", "if there is no such PAPER", this::underNowhere);
        sentence("promise 45", "Returns the NUMBERS UNDER it, rising, with one blank between", this::underTold);
        sentence("promise 45", "(\"\" if there are none)", this::underNone);
    }

    private void between() {
        sentence("promise 46", "- value: 0 to 1000000", this::nearBounds);
        sentence("promise 46", "if value is not in its bounds", this::nearArgument);
        sentence("promise 46", "Returns the nearest NUMBER greater (less) than it that IS YES", this::nearest);
        sentence("promise 46", "if it is no more than 200 away and it is PROVED between both", this::nearProved);
        sentence("promise 46", "otherwise NONE", this::nearNone);
        sentence("promise 47", "- from: 0 to 1000000", this::spanFrom);
        sentence("promise 47", "- to: from to 1000000", this::spanTo);
        sentence("promise 47", "- what: of the NUMBERS from that one to this one (with both)", this::spanBoth);
        sentence("promise 47", "0 how many have a PAPER (WITHDRAWN or not)", this::spanPapers);
        sentence("promise 47", "1 how many ARE YES, 2 how many ARE NO", this::spanVerdicts);
        sentence("promise 47", "3 how many TWINS (both among these)", this::spanTwins);
        sentence("promise 47", "4 the greatest difference of two that ARE YES, with none that IS YES between", this::spanGaps);
        sentence("promise 47", "no more than 200 away and PROVED between them", this::spanProved);
        sentence("promise 47", "(0 if there is none)", this::spanNoGap);
        sentence("promise 47", "if from, to or what is not in its bounds", this::spanArguments);
        sentence("promise 47", "Returns that.", this::spanTold);
    }

    /** 2, 3 and 7 by KIND 7, then 7 by KIND 8 (paper 3, on 2 and 3) and 29 by KIND 8 (paper 4, on 2 and 7). */
    private static Witnesshall withTwoOfSeven() {
        Witnesshall x = decided(2, 3, 7);
        filed(x, 8, 7, 3, 2, 3);
        filed(x, 8, 29, 2, 2, 7);
        return x;
    }

    // ---- part 4

    private void takenWithoutFault() {
        Witnesshall x = office();
        is(filed(x, 0, 15, 4), -2);
        is(x.count(0), 0);
        is(filed(x, 0, 15, 3), 0);
        is(x.count(0), 1);
        is(filed(x, 8, 5, 2, 2), -3);
        x.decide(2);
        is(filed(x, 8, 5, 2, 2), 2);
    }

    private void numberedAsTaken() {
        Witnesshall x = office();
        is(x.decide(4), 0);
        is(x.decide(3), 1);
        is(x.decide(1009), 4);
        is(filed(x, 7, 5), 5);
        x.put(0, 341);
        is(x.accuse(0, 3), 6);
        is(sought(x, 2, 341), 7);
        String[] due = {"4 no divisor 2", "3 yes small", "2 yes small", "7 yes small", "1009 yes full 11 2 3 7", "5 yes small",
            "341 no power 3", "341 no root 32"};
        for (int paper = 0; paper < due.length; paper++) {
            is(x.paper(paper), due[paper]);
        }
        x.undo();
        x.undo();
        is(x.decide(6), 6);
        x.withdraw(6);
        is(x.decide(8), 7);
    }

    /** Each call that takes papers: the last one that there is room for, and one more. */
    private void roomOfAll() {
        Witnesshall x = filled(149);
        is(x.decide(907), 149);
        noState(x, () -> x.decide(911));
        x.undo();
        is(sought(x, 7, 907), 149);
        x.put(0, 911);
        noState(x, () -> x.seek(7, 0));
        x.undo();
        is(x.next(150), 151);
        noState(x, () -> x.next(151));
        x.undo();
        x.put(0, 341);
        is(x.accuse(0, 3), 149);
        noState(x, () -> x.accuse(0, 2));
        x.undo();
        is(filed(x, 0, 155, 5), 149);
        faultOf(x, 0, 159, 3);
        noState(x, () -> x.file());
        x.undo();
        x.put(0, 7);
        x.begin(0);
        is(x.grow(0, false), 2);
        is(x.count(0), 150);
        noState(x, () -> x.grow(0, false));
        is(x.paper(149), "29 yes part 2 7");
        x.withdraw(149);
        noState(x, () -> x.decide(911));
        is(x.count(0), 150);
    }

    private void held() {
        Witnesshall x = decided(15, 7);
        for (int i = 0; i < 2; i++) {
            int paper = i;
            is(x.ofPaper(paper, 2), TRUSTED);
            x.withdraw(paper);
            is(x.ofPaper(paper, 2), WITHDRAWN);
            x.restore(paper);
            is(x.ofPaper(paper, 2), TRUSTED);
            noState(x, () -> x.restore(paper));
        }
    }

    /** Whether the paper becomes LOOSE when the paper for that number is withdrawn. */
    private static boolean isLooseWithout(Witnesshall x, int paper, int number) {
        x.withdraw(number);
        boolean isLoose = x.ofPaper(paper, 2) == LOOSE;
        x.restore(number);
        return isLoose;
    }

    private void hangsOnFactors() {
        int[][] rows = {{6, 561, 3, 11, 17}, {8, 11, 6, 2, 5}, {9, 11, 2, 5}, {9, 11, 6, 2, 5}, {10, 5, 3, 3, 2, 3}, {10, 17, 1, -1, 3}};
        String[] due = {"3 11 17", "2 5", "5", "2 5", "2 3", "3"};
        int[] primes = {2, 3, 5, 11, 17};
        for (int i = 0; i < rows.length; i++) {
            Witnesshall x = decided(primes);
            int paper = filed(x, rows[i][0], rows[i][1], Arrays.copyOfRange(rows[i], 2, rows[i].length));
            is(x.under(paper), due[i]);
            for (int number = 0; number < primes.length; number++) {
                is(isLooseWithout(x, paper, number), (" " + due[i] + " ").contains(" " + primes[number] + " "));
            }
        }
    }

    private void hangsOnNone() {
        Witnesshall x = decided(2, 3, 5);
        int[][] rows = {{0, 15, 3}, {0, 9, 3}, {1, 15, 2}, {1, 9, 2}, {2, 15, 4}, {3, 85, 1, -3}, {4, 511}, {11, 31}, {12, 17},
            {7, 7}};
        for (int[] row : rows) {
            int paper = filed(x, row[0], row[1], Arrays.copyOfRange(row, 2, row.length));
            for (int number = 0; number < 3; number++) {
                is(isLooseWithout(x, paper, number), false);
            }
            is(x.under(paper), "");
            is(x.ofPaper(paper, 4), 0);
        }
        int full = filed(x, 8, 5, 3, 2);
        is(isLooseWithout(x, full, 1), false);
        is(isLooseWithout(x, full, 0), true);
    }

    private void trusted() {
        Witnesshall x = decided(2, 5);
        int paper = filed(x, 8, 11, 2, 2, 5);
        is(x.ofPaper(paper, 2), TRUSTED);
        x.withdraw(0);
        is(x.ofPaper(paper, 2), LOOSE);
        x.withdraw(1);
        x.restore(0);
        is(x.ofPaper(paper, 2), LOOSE);
        x.restore(1);
        is(x.ofPaper(paper, 2), TRUSTED);
        x.withdraw(paper);
        is(x.ofPaper(paper, 2), WITHDRAWN);
        x.withdraw(1);
        is(x.ofPaper(paper, 2), WITHDRAWN);
    }

    private void yesOrNo() {
        Witnesshall x = decided(7, 15);
        is(verdict(x, 7), 1);
        is(verdict(x, 15), 0);
        filed(x, 11, 7);
        filed(x, 1, 15, 2);
        x.withdraw(0);
        x.withdraw(1);
        is(verdict(x, 7), 1);
        is(verdict(x, 15), 0);
        x.withdraw(2);
        x.withdraw(3);
        is(verdict(x, 7), NONE);
        is(verdict(x, 15), NONE);
        Witnesshall y = decided(2, 5, 3, 11, 17);
        filed(y, 9, 11, 2, 5);
        y.withdraw(3);
        is(verdict(y, 11), 1);
        y.withdraw(1);
        is(verdict(y, 11), NONE);
        y.restore(3);
        filed(y, 6, 561, 3, 11, 17);
        is(verdict(y, 561), 0);
        y.withdraw(4);
        is(verdict(y, 561), NONE);
        is(y.ofPaper(6, 2), LOOSE);
    }

    /** What hangs on a number stands before its new paper: the order of taking does not matter. */
    private void settledAnew() {
        Witnesshall x = withTwoOfSeven();
        filed(x, 9, 59, 2, 29);
        is(x.count(1), 6);
        x.withdraw(2);
        is(x.count(1), 5);
        x.withdraw(1);
        is(x.ofPaper(3, 2), LOOSE);
        is(x.ofPaper(4, 2), LOOSE);
        is(x.ofPaper(5, 2), LOOSE);
        is(x.decide(3), 6);
        is(x.ofPaper(3, 2), TRUSTED);
        is(x.ofPaper(4, 2), TRUSTED);
        is(x.ofPaper(5, 2), TRUSTED);
        x.withdraw(0);
        is(x.count(3), 3);
        is(verdict(x, 59), NONE);
        is(x.restore(0), 0);
        is(verdict(x, 59), 1);
    }

    private void loose() {
        Witnesshall x = withTwoOfSeven();
        is(x.count(3), 0);
        is(x.withdraw(0), 2);
        is(x.ofPaper(3, 2), LOOSE);
        is(x.ofPaper(4, 2), LOOSE);
        is(x.ofPaper(0, 2), WITHDRAWN);
        is(x.withdraw(3), 1);
        is(x.count(3), 1);
        is(x.count(2), 2);
    }

    private void verdicts() {
        Witnesshall x = decided(7, 9);
        is(verdict(x, 7), 1);
        is(verdict(x, 9), 0);
        for (int n : new int[] {8, -7, -9, 0, 1, 2, MAX, MIN}) {
            is(verdict(x, n), NONE);
        }
        x.withdraw(0);
        x.withdraw(1);
        is(verdict(x, 7), NONE);
        is(verdict(x, 9), NONE);
        x.make(1, 2, 127, -1);
        is(x.number(1, 4), NONE);
        x.seek(11, 1);
        is(x.number(1, 4), 1);
        x.make(2, 2, 101, -1);
        x.seek(4, 2);
        is(x.number(2, 4), 0);
    }

    private void first() {
        Witnesshall x = withTwoOfSeven();
        is(x.under(4), "2 7");
        is(x.ofPaper(4, 4), 1);
        x.withdraw(2);
        is(x.under(4), "2 3 7");
        is(x.ofPaper(4, 4), 2);
        x.restore(2);
        is(x.under(4), "2 7");
        Witnesshall y = decided(2, 3);
        filed(y, 8, 7, 3, 2, 3);
        filed(y, 8, 29, 2, 2, 7);
        filed(y, 7, 7);
        is(y.under(3), "2 3 7");
        y.withdraw(1);
        is(y.ofPaper(2, 2), LOOSE);
        is(y.under(3), "2 7");
        is(y.ofPaper(3, 4), 1);
        Witnesshall z = decided(2, 3, 5);
        filed(z, 9, 11, 2, 5);
        filed(z, 10, 11, 1, -4, 2, 3);
        filed(z, 8, 23, 5, 2, 11);
        is(z.under(5), "2 5 11");
        z.withdraw(2);
        is(z.ofPaper(3, 2), LOOSE);
        is(z.under(5), "2 3 11");
        is(z.ofPaper(5, 4), 2);
    }

    private void underTrusted() {
        Witnesshall x = decided(999983);
        is(x.paper(5), "999983 yes full 5 2 79 6329");
        is(x.under(5), "2 7 79 113 6329");
        is(x.under(4), "2 7 113");
        is(x.ofPaper(5, 5), 5);
        x.put(0, 999983);
        is(x.hangs(5, 0), false);
    }

    private void depthOfNone() {
        Witnesshall x = decided(2, 4, 341);
        for (int paper = 0; paper < 3; paper++) {
            is(x.ofPaper(paper, 4), 0);
        }
    }

    private void depths() {
        Witnesshall x = decided(999983);
        is(x.ofPaper(4, 4), 1);
        is(x.ofPaper(5, 4), 2);
        Witnesshall y = begun(7);
        for (int k = 1; k < 8; k++) {
            y.grow(0, false);
            is(y.ofPaper(k, 4), k);
            is(y.ofPaper(k, 5), k);
        }
        Witnesshall w = decided(2, 3, 11);
        filed(w, 8, 7, 3, 2, 3);
        is(sought(w, 8, 463), 4);
        is(w.paper(4), "463 yes full 3 2 3 7 11");
        is(w.ofPaper(4, 4), 2);
        Witnesshall z = withTwoOfSeven();
        z.withdraw(2);
        filed(z, 9, 59, 2, 29);
        is(z.ofPaper(5, 4), 3);
        z.restore(2);
        is(z.ofPaper(5, 4), 2);
    }

    private void underLoose() {
        Witnesshall x = decided(999983);
        x.put(1, 2);
        is(x.hangs(5, 1), true);
        x.withdraw(2);
        for (int paper : new int[] {2, 4, 5}) {
            is(x.under(paper), "");
            is(x.ofPaper(paper, 4), NONE);
            is(x.ofPaper(paper, 5), 0);
            is(x.hangs(paper, 1), false);
        }
        x.restore(2);
        x.withdraw(5);
        is(x.under(5), "");
        is(x.ofPaper(5, 4), NONE);
        is(x.ofPaper(5, 5), 0);
        is(x.hangs(5, 1), false);
        is(x.under(4), "2 7 113");
    }

    private void provedFromThree() {
        Witnesshall x = decided(3);
        is(x.near(0, true), 3);
        is(x.near(1, true), 3);
        is(x.near(2, true), 3);
        Witnesshall y = decided(5);
        is(y.near(0, true), NONE);
        is(y.near(2, true), NONE);
        is(y.near(3, true), 5);
        Witnesshall z = decided(2, 7, 9, 11);
        is(z.near(7, true), 11);
        is(z.near(2, true), NONE);
        is(z.near(4, true), NONE);
        is(z.near(5, true), 7);
        is(decided(2, 3).span(2, 3, 4), 1);
        is(decided(2, 5).span(2, 5, 4), 0);
    }

    private void provedWithoutBoth() {
        Witnesshall x = decided(11);
        is(x.near(9, true), 11);
        is(x.near(10, true), 11);
        is(x.near(8, true), NONE);
        is(x.near(13, false), 11);
        is(x.near(12, false), 11);
        is(x.near(14, false), NONE);
        Witnesshall y = decided(7, 11);
        is(y.near(7, true), NONE);
        is(y.near(11, false), NONE);
        y.decide(9);
        is(y.near(7, true), 11);
        is(y.near(11, false), 7);
        is(y.span(7, 11, 4), 4);
    }

    private void provedByNo() {
        Witnesshall x = decided(7, 11, 9);
        is(x.near(7, true), 11);
        x.withdraw(2);
        is(x.near(7, true), NONE);
        is(x.span(7, 11, 4), 0);
        filed(x, 1, 9, 2);
        is(x.near(7, true), 11);
        is(x.span(7, 11, 4), 4);
        Witnesshall y = decided(3, 11, 17, 557, 559, 563);
        int paper = filed(y, 6, 561, 3, 11, 17);
        is(y.near(557, true), 563);
        y.withdraw(0);
        is(y.ofPaper(paper, 2), LOOSE);
        is(y.near(557, true), NONE);
        y.restore(0);
        is(y.near(557, true), 563);
    }

    private void twins() {
        Witnesshall x = decided(2, 3, 4, 5, 7, 9, 11, 13);
        is(x.span(0, 100, 3), 3);
        is(x.span(2, 4, 3), 0);
        is(x.span(7, 9, 3), 0);
        x.withdraw(3);
        is(x.span(0, 100, 3), 1);
        is(decided(5).span(0, 100, 3), 0);
        is(decided(5, 7).span(0, 100, 3), 1);
    }

    private void guard() {
        Witnesshall x = office();
        is(x.count(9), 0);
        is(x.knock(), 1);
        is(x.knock(), 2);
        noState(x, () -> x.undo());
        noIndex(x, () -> x.put(10, 0));
        is(x.count(9), 2);
        is(x.knock(), 3);
    }

    // ---- promises 21 and 22

    private void withdrawNowhere() {
        Witnesshall x = office();
        noIndex(x, () -> x.withdraw(0));
        x.decide(2);
        for (int paper : new int[] {-1, 1, 150, MIN, MAX}) {
            noIndex(x, () -> x.withdraw(paper));
        }
        is(x.withdraw(0), 0);
        Witnesshall full = filled(150);
        noIndex(full, () -> full.withdraw(150));
        is(full.withdraw(149), 0);
    }

    private void withdrawAgain() {
        Witnesshall loose = withTwoOfSeven();
        loose.withdraw(0);
        is(loose.ofPaper(4, 2), LOOSE);
        is(loose.withdraw(4), 1);
        noState(loose, () -> loose.withdraw(4));
        Witnesshall x = decided(2, 3);
        x.withdraw(0);
        noState(x, () -> x.withdraw(0));
        is(x.withdraw(1), 0);
        x.restore(0);
        is(x.withdraw(0), 0);
        noState(x, () -> x.withdraw(0));
        noState(x, () -> x.withdraw(1));
    }

    private void withdrawTold() {
        Witnesshall x = withTwoOfSeven();
        is(x.withdraw(2), 0);
        is(x.withdraw(1), 2);
        is(x.withdraw(0), 2);
        is(x.withdraw(3), 1);
        is(x.withdraw(4), 0);
        is(x.count(2), 5);
    }

    private void restoreNowhere() {
        Witnesshall x = office();
        noIndex(x, () -> x.restore(0));
        x.decide(2);
        x.withdraw(0);
        for (int paper : new int[] {-1, 1, 150, MIN, MAX}) {
            noIndex(x, () -> x.restore(paper));
        }
        is(x.restore(0), 0);
    }

    private void restoreHeld() {
        Witnesshall x = withTwoOfSeven();
        noState(x, () -> x.restore(0));
        x.withdraw(0);
        is(x.ofPaper(4, 2), LOOSE);
        noState(x, () -> x.restore(4));
        is(x.restore(0), 0);
        noState(x, () -> x.restore(0));
    }

    private void restoreBesideHeld() {
        Witnesshall x = decided(15);
        x.withdraw(0);
        filed(x, 1, 15, 2);
        is(x.restore(0), 0);
        x.withdraw(0);
        is(filed(x, 0, 15, 5), 2);
        noState(x, () -> x.restore(0));
        x.withdraw(2);
        is(x.restore(0), 0);
        noState(x, () -> x.restore(2));
        Witnesshall y = decided(2, 5);
        filed(y, 8, 11, 2, 2, 5);
        y.withdraw(2);
        filed(y, 8, 11, 6, 2, 5);
        y.withdraw(0);
        is(y.ofPaper(3, 2), LOOSE);
        noState(y, () -> y.restore(2));
    }

    private void restoreTold() {
        Witnesshall x = withTwoOfSeven();
        for (int paper : new int[] {4, 3, 2, 1, 0}) {
            x.withdraw(paper);
        }
        is(x.restore(4), 1);
        is(x.restore(3), 2);
        is(x.restore(0), 2);
        is(x.restore(1), 0);
        is(x.restore(2), 0);
    }

    // ---- promises 42, 44 and 45

    private void ofPaperKind() {
        Witnesshall x = decided(2, 3, 5, 11, 17);
        int[][] rows = {{0, 15, 3}, {1, 15, 2}, {2, 15, 4}, {3, 85, 1, -3}, {4, 511}, {6, 561, 3, 11, 17}, {7, 7}, {8, 11, 2, 2, 5},
            {9, 11, 2, 5}, {10, 5, 3, 3, 2, 3}, {11, 127}, {12, 257}};
        for (int[] row : rows) {
            int paper = filed(x, row[0], row[1], Arrays.copyOfRange(row, 2, row.length));
            is(x.ofPaper(paper, 0), row[0]);
            is(x.ofPaper(paper, 1), row[0] >= 7 ? 1 : 0);
            is(x.ofPaper(paper, 3), row.length - 2);
        }
        is(x.ofPaper(filed(x, 5, (1L << 32) + 1), 0), 5);
    }

    private void ofPaperYes() {
        Witnesshall x = decided(2, 4, 341);
        is(x.ofPaper(0, 1), 1);
        is(x.ofPaper(1, 1), 0);
        is(x.ofPaper(2, 1), 0);
        x.withdraw(0);
        is(x.ofPaper(0, 1), 1);
    }

    private void ofPaperStanding() {
        Witnesshall x = withTwoOfSeven();
        is(x.ofPaper(3, 2), 2);
        x.withdraw(1);
        is(x.ofPaper(3, 2), 1);
        x.withdraw(3);
        is(x.ofPaper(3, 2), 0);
        is(x.ofPaper(4, 2), 2);
    }

    private void ofPaperRow() {
        Witnesshall x = withTwoOfSeven();
        int[] due = {0, 0, 0, 3, 3};
        for (int paper = 0; paper < due.length; paper++) {
            is(x.ofPaper(paper, 3), due[paper]);
        }
    }

    private void ofPaperDepth() {
        Witnesshall x = withTwoOfSeven();
        x.withdraw(2);
        is(x.ofPaper(0, 4), 0);
        is(x.ofPaper(2, 4), NONE);
        is(x.ofPaper(3, 4), 1);
        is(x.ofPaper(4, 4), 2);
    }

    private void ofPaperUnder() {
        Witnesshall x = withTwoOfSeven();
        is(x.ofPaper(4, 5), 2);
        x.withdraw(2);
        is(x.ofPaper(4, 5), 3);
        is(x.ofPaper(3, 5), 2);
        is(x.ofPaper(0, 5), 0);
        x.withdraw(0);
        is(x.ofPaper(4, 5), 0);
    }

    private void ofPaperFold() {
        Witnesshall x = decided(2);
        is(x.ofPaper(0, 6), 2);
        x.make(1, 2, 127, -1);
        is(x.seek(11, 1), 1);
        is(x.ofPaper(1, 6), two(127).subtract(ONE).mod(big(1000003)).intValue());
        x.put(2, 1000003 * 3);
        x.sheet(0, 2);
        x.writeValue(3);
        x.file();
        is(x.ofPaper(2, 6), 0);
    }

    private void ofPaperNowhere() {
        Witnesshall x = office();
        noIndex(x, () -> x.ofPaper(0, 0));
        x.decide(2);
        for (int paper : new int[] {-1, 1, 150, MIN, MAX}) {
            noIndex(x, () -> x.ofPaper(paper, 0));
            noIndex(x, () -> x.ofPaper(paper, 7));
            noIndex(x, () -> x.ofPaper(paper, -1));
        }
        is(filled(150).ofPaper(149, 0), 7);
    }

    private void ofPaperWhat() {
        Witnesshall x = decided(2);
        for (int what : new int[] {-1, 7, MIN, MAX}) {
            noArgument(x, () -> x.ofPaper(0, what));
        }
        is(x.ofPaper(0, 0), 7);
        is(x.ofPaper(0, 6), 2);
    }

    private void ofPaperTold() {
        Witnesshall x = decided(999983);
        int[][] due = {{7, 1, 2, 0, 0, 0, 2}, {7, 1, 2, 0, 0, 0, 79}, {7, 1, 2, 0, 0, 0, 7}, {7, 1, 2, 0, 0, 0, 113},
            {8, 1, 2, 4, 1, 3, 6329}, {8, 1, 2, 4, 2, 5, 999983}};
        for (int paper = 0; paper < due.length; paper++) {
            for (int what = 0; what <= 6; what++) {
                is(x.ofPaper(paper, what), due[paper][what]);
            }
        }
    }

    private void hangsNowhere() {
        Witnesshall x = decided(2);
        for (int paper : new int[] {-1, 1, 150, MIN, MAX}) {
            noIndex(x, () -> x.hangs(paper, 0));
        }
        for (int place : NO_PLACES) {
            noIndex(x, () -> x.hangs(0, place));
            noIndex(x, () -> x.hangs(1, place));
        }
        is(x.hangs(0, 9), false);
    }

    private void hangsTold() {
        Witnesshall x = decided(999983);
        for (int n : new int[] {2, 7, 79, 113, 6329}) {
            x.put(1, n);
            is(x.hangs(5, 1), true);
        }
        for (int n : new int[] {999983, 3, 5, 0, -2, -7, 158, MAX}) {
            x.put(1, n);
            is(x.hangs(5, 1), false);
        }
        x.put(1, 79);
        is(x.hangs(4, 1), false);
        is(x.hangs(1, 1), false);
    }

    private void underNowhere() {
        Witnesshall x = office();
        noIndex(x, () -> x.under(0));
        x.decide(2);
        for (int paper : new int[] {-1, 1, 150, MIN, MAX}) {
            noIndex(x, () -> x.under(paper));
        }
        is(x.under(0), "");
    }

    private void underTold() {
        Witnesshall x = office();
        for (int n : new int[] {113, 4, 79, 6, 7, 2}) {
            x.decide(n);
        }
        int paper = x.decide(999983);
        is(x.under(paper), "2 7 79 113 6329");
        Witnesshall y = begun(7);
        y.grow(0, false);
        y.grow(0, false);
        is(y.under(2), "7 29");
        is(y.under(1), "7");
    }

    private void underNone() {
        Witnesshall x = decided(2, 4, 341);
        for (int paper = 0; paper < 3; paper++) {
            is(x.under(paper), "");
        }
        sought(x, 8, 5);
        is(x.under(3), "2");
        x.withdraw(0);
        is(x.under(3), "");
    }

    // ---- promises 46 and 47

    /** 1000003 by KIND 9 and, for NO, 1000001: what is just beyond the greatest value. */
    private static Witnesshall beyondMillion() {
        Witnesshall x = decided(2, 3, 166667, 999983);
        filed(x, 9, 1000003, 2, 166667);
        x.put(0, 1000001);
        x.accuse(0, 2);
        for (int n = 999985; n <= 999999; n += 2) {
            x.decide(n);
        }
        return x;
    }

    private void nearBounds() {
        Witnesshall x = beyondMillion();
        is(x.near(1000000, true), 1000003);
        is(x.near(1000000, false), 999983);
        is(x.near(999999, true), 1000003);
        is(x.near(0, true), 2);
        is(x.near(0, false), NONE);
        for (int value : new int[] {-1, 1000001, MIN, MAX}) {
            noArgument(x, () -> x.near(value, true));
            noArgument(x, () -> x.near(value, false));
        }
        Witnesshall y = decided(2, 3);
        is(y.near(1000000, false), NONE);
        is(y.near(1000000, true), NONE);
    }

    private void nearArgument() {
        Witnesshall x = office();
        noArgument(x, () -> x.near(-1, true));
        noArgument(x, () -> x.near(-1, false));
        noArgument(x, () -> x.near(1000001, true));
        noArgument(x, () -> x.near(1000001, false));
        is(x.near(0, true), NONE);
        is(x.near(1000000, false), NONE);
    }

    private void nearest() {
        Witnesshall x = decided(2, 3, 5, 7, 9, 11, 13, 15, 17);
        int[] above = {2, 2, 3, 5, 5, 7, 7, 11, 11, 11, 11, 13, 13, 17, 17, 17, 17};
        int[] below = {NONE, NONE, NONE, 2, 3, 3, 5, 5, 7, 7, 7, 7, 11, 11, 13, 13, 13, 13};
        for (int value = 0; value < above.length; value++) {
            is(x.near(value, true), above[value]);
        }
        for (int value = 0; value < below.length; value++) {
            is(x.near(value, false), below[value]);
        }
        x.withdraw(5);
        is(x.near(7, true), NONE);
        x.withdraw(6);
        is(x.near(14, true), 17);
        is(x.near(12, true), NONE);
    }

    /** The widest gap of all below 1000000, 114: each of its odd numbers is needed. */
    private void nearProved() {
        Witnesshall x = decided(492113, 492227);
        for (int n = 492115; n <= 492225; n += 2) {
            is(x.near(492113, true), NONE);
            is(x.near(492227, false), NONE);
            x.decide(n);
        }
        is(x.near(492113, true), 492227);
        is(x.near(492227, false), 492113);
        is(x.near(492226, false), 492113);
        is(x.span(492113, 492227, 4), 114);
        Witnesshall y = decided(5, 401);
        is(y.near(200, true), NONE);
        is(y.near(5, true), NONE);
        is(y.near(401, false), NONE);
    }

    private void nearNone() {
        Witnesshall x = office();
        is(x.near(0, true), NONE);
        is(x.near(1000000, false), NONE);
        x.decide(7);
        is(x.near(7, true), NONE);
        is(x.near(7, false), NONE);
        is(x.near(6, true), 7);
        is(x.near(8, false), 7);
        x.withdraw(0);
        is(x.near(6, true), NONE);
        is(x.near(8, false), NONE);
    }

    private void spanFrom() {
        Witnesshall x = decided(2, 3, 5, 999999, 1000000 - 2);
        is(x.span(0, 1000000, 0), 5);
        is(x.span(1000000, 1000000, 0), 0);
        is(x.span(999999, 1000000, 0), 1);
        for (int from : new int[] {-1, 1000001, MIN}) {
            noArgument(x, () -> x.span(from, 1000000, 0));
        }
        noArgument(x, () -> x.span(MAX, MAX, 0));
        noArgument(x, () -> x.span(1000001, 1000001, 0));
    }

    private void spanTo() {
        Witnesshall x = decided(2, 3, 5);
        is(x.span(3, 3, 0), 1);
        is(x.span(3, 4, 0), 1);
        is(x.span(0, 0, 0), 0);
        is(x.span(3, 1000000, 0), 2);
        for (int to : new int[] {2, 1000001, -1, MIN, MAX}) {
            noArgument(x, () -> x.span(3, to, 0));
        }
    }

    private void spanBoth() {
        Witnesshall x = decided(2, 3, 4, 5, 6, 7);
        is(x.span(3, 7, 0), 5);
        is(x.span(2, 6, 0), 5);
        is(x.span(3, 7, 1), 3);
        is(x.span(4, 6, 1), 1);
        is(x.span(4, 6, 2), 2);
        is(x.span(5, 5, 2), 0);
        is(x.span(3, 7, 3), 2);
        is(x.span(3, 7, 4), 2);
        for (int what : new int[] {-1, 5, MIN, MAX}) {
            noArgument(x, () -> x.span(3, 7, what));
        }
        Witnesshall y = beyondMillion();
        is(y.span(1000000, 1000000, 0), 0);
        is(y.span(999999, 1000000, 0), 1);
        is(y.span(999983, 1000000, 4), 0);
    }

    private void spanPapers() {
        Witnesshall x = decided(7, 15);
        filed(x, 1, 15, 2);
        filed(x, 2, 15, 4);
        is(x.span(15, 15, 0), 1);
        is(x.span(0, 100, 0), 2);
        for (int paper = 0; paper < 4; paper++) {
            x.withdraw(paper);
            is(x.span(15, 15, 0), 1);
            is(x.span(0, 100, 0), 2);
        }
        x.make(1, 2, 127, -1);
        x.seek(11, 1);
        is(x.span(0, 1000000, 0), 2);
    }

    private void spanVerdicts() {
        Witnesshall x = decided(2, 3, 4, 5, 6, 7, 8, 9);
        is(x.span(0, 100, 1), 4);
        is(x.span(0, 100, 2), 4);
        filed(x, 11, 7);
        filed(x, 1, 9, 2);
        is(x.span(0, 100, 1), 4);
        is(x.span(0, 100, 2), 4);
        x.withdraw(5);
        x.withdraw(7);
        is(x.span(0, 100, 1), 4);
        is(x.span(0, 100, 2), 4);
        x.withdraw(8);
        x.withdraw(9);
        is(x.span(0, 100, 1), 3);
        is(x.span(0, 100, 2), 3);
        is(x.span(0, 100, 0), 8);
    }

    private void spanTwins() {
        Witnesshall x = decided(3, 5, 7, 11, 13);
        is(x.span(0, 100, 3), 3);
        is(x.span(3, 5, 3), 1);
        is(x.span(3, 4, 3), 0);
        is(x.span(4, 5, 3), 0);
        is(x.span(4, 7, 3), 1);
        is(x.span(3, 7, 3), 2);
        is(x.span(3, 6, 3), 1);
        is(x.span(11, 13, 3), 1);
        is(x.span(11, 12, 3), 0);
        is(x.span(12, 13, 3), 0);
        is(x.span(5, 11, 3), 1);
    }

    private void spanGaps() {
        Witnesshall x = decided(2, 3, 5, 7, 9, 11, 13, 15, 17);
        is(x.span(0, 100, 4), 4);
        is(x.span(2, 3, 4), 1);
        is(x.span(2, 6, 4), 2);
        is(x.span(7, 11, 4), 4);
        is(x.span(7, 10, 4), 0);
        is(x.span(8, 11, 4), 0);
        is(x.span(5, 10, 4), 2);
        is(x.span(8, 16, 4), 2);
        is(x.span(2, 13, 4), 4);
        x.withdraw(3);
        is(x.span(3, 11, 4), 2);
        x.withdraw(2);
        is(x.span(3, 11, 4), 0);
        is(x.span(3, 100, 4), 4);
    }

    private void spanProved() {
        Witnesshall x = decided(492113, 492227);
        for (int n = 492115; n <= 492223; n += 2) {
            x.decide(n);
        }
        is(x.span(492113, 492227, 4), 0);
        int last = x.decide(492225);
        is(x.span(492113, 492227, 4), 114);
        x.withdraw(last);
        is(x.span(492113, 492227, 4), 0);
        is(decided(7, 11).span(7, 11, 4), 0);
        is(decided(7, 11, 10, 8).span(7, 11, 4), 0);
        is(decided(7, 11, 9).span(7, 11, 4), 4);
    }

    private void spanNoGap() {
        is(office().span(0, 1000000, 4), 0);
        is(decided(7).span(0, 1000000, 4), 0);
        is(decided(7, 13).span(0, 1000000, 4), 0);
        is(decided(9, 15).span(0, 1000000, 4), 0);
    }

    private void spanArguments() {
        Witnesshall x = decided(2, 3);
        noArgument(x, () -> x.span(-1, 3, 0));
        noArgument(x, () -> x.span(3, 2, 0));
        noArgument(x, () -> x.span(0, 1000001, 0));
        noArgument(x, () -> x.span(0, 3, -1));
        noArgument(x, () -> x.span(0, 3, 5));
        is(x.span(0, 3, 4), 1);
    }

    private void spanTold() {
        Witnesshall x = office();
        for (int n = 2; n <= 100; n++) {
            x.decide(n);
        }
        int[] due = {99, 25, 74, 8, 8};
        for (int what = 0; what <= 4; what++) {
            is(x.span(0, 1000000, what), due[what]);
        }
    }
}
