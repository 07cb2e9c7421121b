/** Promises 33 to 52: what is asked of the sheet, rounds, papers, chains and the whole. */
public final class AskPromisesTest extends Tests {
    private static final int NONE = -1;

    public static void main(String[] args) {
        AskPromisesTest t = new AskPromisesTest();
        t.promise(33, t::fault);
        t.promise(34, t::sheetText);
        t.promise(35, t::round);
        t.promise(36, t::passes);
        t.promise(37, t::passer);
        t.promise(38, t::passing);
        t.promise(39, t::witnesses);
        t.promise(40, t::sifted);
        t.promise(41, t::paper);
        t.promise(42, t::ofPaper);
        t.promise(43, t::damaged);
        t.promise(44, t::hangs);
        t.promise(45, t::under);
        t.promise(46, t::near);
        t.promise(47, t::span);
        t.promise(48, t::link);
        t.promise(49, t::ofChain);
        t.promise(50, t::count);
        t.promise(51, t::isSound);
        t.promise(52, t::digest);
        t.end();
    }

    private void fault() {
        Witnesshall x = new Witnesshall();
        noState(x, () -> x.fault());
        x.put(0, 11);
        is(x.sheet(8, 0), 1);
        is(x.fault(), 1);
        x.writeValue(2);
        is(x.fault(), 2);
        x.writeValue(2);
        is(x.fault(), 2);
        x.decide(2);
        is(x.fault(), 3);
        x.decide(5);
        x.writeValue(5);
        is(x.fault(), NONE);
        x.withdraw(0);
        is(x.fault(), 2);
        x.undo();
        is(x.fault(), NONE);
        x.withdraw(1);
        is(x.fault(), 3);
        x.undo();
        is(x.file(), 2);
        noState(x, () -> x.fault());
    }

    private void sheetText() {
        Witnesshall x = new Witnesshall();
        is(x.sheetText(), "");
        x.put(0, 11);
        x.sheet(8, 0);
        x.writeValue(2);
        x.writeValue(-2);
        x.writeValue(0);
        x.make(1, 2, 129, 0);
        x.write(1);
        is(x.sheetText(), "11 yes full 2 -2 0 680564733841876926926749214863536422912");
        x.make(1, 2, 127, -1);
        x.sheet(11, 1);
        is(x.sheetText(), "170141183460469231731687303715884105727 yes squares");
        x.file();
        is(x.sheetText(), "");
    }

    private static long says(int n, int base) {
        long b = base % n;
        int t = n - 1;
        int s = 0;
        while (t % 2 == 0) {
            t /= 2;
            s++;
        }
        long x = 1;
        for (int i = 0; i < t; i++) {
            x = x * b % n;
        }
        if (b == 0 || b == 1 || b == n - 1 || x == 1) {
            return 0;
        }
        for (int i = 0; i < s; i++) {
            if (x == n - 1) {
                return 0;
            }
            x = x * x % n;
        }
        return x == 1 ? 2 : 1;
    }

    private void round() {
        Witnesshall x = new Witnesshall();
        for (int n = 5; n <= 131; n += 2) {
            x.put(0, n);
            for (int base = 2; base <= 140; base++) {
                is((long) x.round(0, base), says(n, base));
            }
        }
        x.put(0, 341);
        is(x.round(0, 2), 2);
        is(x.round(0, 3), 1);
        is(x.round(0, 340), 0);
        is(x.round(0, 682), 0);
        is(x.round(0, 1000), (int) says(341, 1000));
        x.make(1, 2, 127, -1);
        is(x.round(1, 3), 0);
        x.make(1, 2, 128, 1);
        is(x.round(1, 2), 0);
        is(x.round(1, 3), 1);
        x.make(1, 2, 61, -3);
        is(x.round(1, 2), 1);
        for (int n : new int[] {3, 1, 4, 0, -7}) {
            x.put(2, n);
            noState(x, () -> x.round(2, 2));
        }
        noArgument(x, () -> x.round(2, 1));
        noArgument(x, () -> x.round(0, 1001));
        noIndex(x, () -> x.round(10, 1));
        noIndex(x, () -> x.round(-1, 2));
    }

    private void passes() {
        Witnesshall x = new Witnesshall();
        x.put(0, 2047);
        is(x.passes(0), 0);
        x.base(3);
        x.base(2);
        x.base(23);
        x.base(4);
        is(x.passes(0), 2 + 8);
        x.put(0, 11);
        is(x.passes(0), 15);
        x.drop(0);
        x.put(0, 2047);
        is(x.passes(0), 1 + 4);
        x.base(5);
        x.base(7);
        x.base(64);
        is(x.passes(0), 1 + 4 + 32);
        for (int n : new int[] {3, 4, 0, -11}) {
            x.put(1, n);
            noState(x, () -> x.passes(1));
        }
        noIndex(x, () -> x.passes(10));
        noIndex(x, () -> x.passes(-1));
    }

    private void passer() {
        Witnesshall x = new Witnesshall();
        is(x.passer(5), 9);
        is(x.passer(9), 9);
        is(x.passer(10), 15);
        x.base(2);
        is(x.passer(1849), 2047);
        is(x.passer(1848), 2047);
        is(x.passer(1847), NONE);
        is(x.passer(2047), 2047);
        is(x.passer(2048), NONE);
        is(x.passer(3277), 3277);
        x.base(3);
        is(x.passer(2047), NONE);
        x.drop(0);
        is(x.passer(121), 121);
        is(x.passer(999999), NONE);
        noArgument(x, () -> x.passer(4));
        noArgument(x, () -> x.passer(1000000));
        noArgument(x, () -> x.passer(-5));
    }

    private void passing() {
        Witnesshall x = new Witnesshall();
        is(x.passing(5, 60), 60);
        x.base(2);
        is(x.passing(5, 1), 1);
        is(x.passing(9, 1), 0);
        is(x.passing(8, 2), 1);
        is(x.passing(5, 48), 23);
        is(x.passing(341, 60), 20);
        is(x.passing(2047, 1), 1);
        x.base(7);
        is(x.passing(2047, 1), 0);
        is(x.passing(999999, 60), 7);
        noArgument(x, () -> x.passing(4, 1));
        noArgument(x, () -> x.passing(1000000, 1));
        noArgument(x, () -> x.passing(5, 0));
        noArgument(x, () -> x.passing(5, 61));
    }

    private void witnesses() {
        Witnesshall x = new Witnesshall();
        for (int n = 5; n <= 255; n += 2) {
            int due = 0;
            for (int base = 1; base < n; base++) {
                due += says(n, base) != 0 ? 1 : 0;
            }
            is(x.witnesses(n), due);
        }
        is(x.witnesses(25), 20);
        is(x.witnesses(9), 6);
        is(x.witnesses(251), 0);
        noState(x, () -> x.witnesses(6));
        noState(x, () -> x.witnesses(254));
        noArgument(x, () -> x.witnesses(4));
        noArgument(x, () -> x.witnesses(3));
        noArgument(x, () -> x.witnesses(256));
        noArgument(x, () -> x.witnesses(257));
    }

    private void sifted() {
        Witnesshall x = new Witnesshall();
        for (int n = 2; n < 3000; n++) {
            is(x.sifted(n), Reference.isSifted(n));
        }
        is(x.sifted(999983), true);
        is(x.sifted(999999), false);
        is(x.sifted(994009), false);
        is(x.sifted(997 * 991), false);
        is(x.sifted(998001), false);
        noArgument(x, () -> x.sifted(1));
        noArgument(x, () -> x.sifted(1000000));
        noArgument(x, () -> x.sifted(-7));
    }

    private void paper() {
        Witnesshall x = new Witnesshall();
        noIndex(x, () -> x.paper(0));
        x.decide(11);
        x.decide(15);
        is(x.paper(0), "11 yes small");
        is(x.paper(1), "15 no divisor 3");
        x.withdraw(0);
        is(x.paper(0), "11 yes small");
        x.put(0, 11);
        x.seek(8, 0);
        is(x.paper(4), "11 yes full 2 2 5");
        noIndex(x, () -> x.paper(5));
        noIndex(x, () -> x.paper(-1));
        x.undo();
        noIndex(x, () -> x.paper(4));
    }

    private void ofPaper() {
        Witnesshall x = new Witnesshall();
        x.decide(999983);
        int[][] due = {{7, 1, 2, 0, 0, 0, 2}, {7, 1, 2, 0, 0, 0, 79}, {7, 1, 2, 0, 0, 0, 7}, {7, 1, 2, 0, 0, 0, 113},
            {8, 1, 2, 4, 1, 3, 6329}, {8, 1, 2, 4, 2, 5, 999983}};
        for (int paper = 0; paper < due.length; paper++) {
            for (int what = 0; what < 7; what++) {
                is(x.ofPaper(paper, what), due[paper][what]);
            }
        }
        x.withdraw(2);
        is(x.ofPaper(2, 2), 0);
        is(x.ofPaper(2, 4), NONE);
        is(x.ofPaper(4, 2), 1);
        is(x.ofPaper(4, 4), NONE);
        is(x.ofPaper(4, 5), 0);
        is(x.ofPaper(5, 2), 1);
        x.put(0, 561);
        int paper = x.seek(6, 0);
        is(x.ofPaper(paper, 1), 0);
        is(x.ofPaper(paper, 3), 3);
        is(x.ofPaper(paper, 4), 1);
        is(x.ofPaper(paper, 5), 3);
        x.make(1, 2, 127, -1);
        paper = x.seek(11, 1);
        x.fetch(2, paper, 0);
        is(x.ofPaper(paper, 6), x.number(2, 3));
        firstsCount();
        noArgument(x, () -> x.ofPaper(0, -1));
        noArgument(x, () -> x.ofPaper(0, 7));
        noIndex(x, () -> x.ofPaper(-1, 7));
        noIndex(x, () -> x.ofPaper(x.count(0), 0));
    }

    /** DEPTH and UNDER go by the FIRST: the trusted paper for yes with the smallest number. */
    private void firstsCount() {
        Witnesshall x = new Witnesshall();
        x.put(0, 7);
        x.seek(8, 0);
        is(x.under(2), "2 3");
        x.decide(29);
        x.put(1, 29);
        x.seek(8, 1);
        is(x.paper(4), "29 yes full 2 2 7");
        is(x.under(4), "2 3 7");
        is(x.ofPaper(4, 4), 2);
        x.seek(7, 0);
        is(x.ofPaper(4, 4), 2);
        x.withdraw(2);
        is(x.ofPaper(4, 4), 1);
        is(x.under(4), "2 7");
        is(x.ofPaper(4, 5), 2);
        x.restore(2);
        is(x.ofPaper(4, 4), 2);
        x.withdraw(1);
        is(x.ofPaper(2, 2), 1);
        is(x.ofPaper(4, 2), 2);
        is(x.ofPaper(4, 4), 1);
    }

    private void damaged() {
        Witnesshall x = new Witnesshall();
        x.decide(2);
        x.decide(5);
        x.put(0, 11);
        x.seek(8, 0);
        is(x.damaged(2, 0, 0), NONE);
        is(x.damaged(2, 0, 1), 0);
        is(x.damaged(2, 0, 2), 3);
        is(x.damaged(2, 0, -2), 1);
        is(x.damaged(2, 1, 1), 2);
        is(x.damaged(2, 1, 2), 2);
        is(x.damaged(2, 1, -1), 1);
        is(x.damaged(2, 2, 3), 3);
        is(x.damaged(2, 3, -3), 3);
        is(x.damaged(2, 3, 1), 3);
        is(x.damaged(0, 0, 1), NONE);
        is(x.damaged(0, 0, 2), 1);
        is(x.damaged(0, 0, 3), NONE);
        is(x.damaged(0, 0, -1), 0);
        x.sheet(0, 0);
        String text = x.sheetText();
        is(x.damaged(2, 1, 0), NONE);
        is(x.sheetText(), text);
        is(x.paper(2), "11 yes full 2 2 5");
        x.withdraw(1);
        is(x.damaged(2, 1, 0), 3);
        x.withdraw(0);
        is(x.damaged(2, 1, 0), 2);
        is(x.damaged(0, 0, 0), NONE);
        noArgument(x, () -> x.damaged(2, 0, 4));
        noArgument(x, () -> x.damaged(2, 0, -4));
        noIndex(x, () -> x.damaged(2, 4, 4));
        noIndex(x, () -> x.damaged(2, -1, 0));
        noIndex(x, () -> x.damaged(3, 0, 0));
        noIndex(x, () -> x.damaged(-1, 0, 0));
        longest();
    }

    /** A number that is WITHIN only before it is made greater. */
    private void longest() {
        Witnesshall x = new Witnesshall();
        x.make(0, 4, 65, -1);
        x.sheet(0, 0);
        x.writeValue(3);
        is(x.file(), 0);
        is(x.damaged(0, 0, 3), NONE);
        is(x.damaged(0, 0, 0), NONE);
        is(x.damaged(0, 0, 1), 1);
        is(x.damaged(0, 0, 2), 1);
        is(x.seek(1, 0), 1);
        is(x.damaged(1, 0, 2), NONE);
        is(x.damaged(1, 0, 3), 0);
    }

    private void hangs() {
        Witnesshall x = new Witnesshall();
        x.decide(999983);
        int[] yes = {2, 7, 79, 113, 6329};
        for (int n : yes) {
            x.put(1, n);
            is(x.hangs(5, 1), true);
            is(x.hangs(4, 1), n != 79 && n != 6329);
            is(x.hangs(0, 1), false);
        }
        for (int n : new int[] {999983, 3, 0, -2, 5}) {
            x.put(1, n);
            is(x.hangs(5, 1), false);
        }
        x.withdraw(1);
        x.put(1, 2);
        is(x.hangs(5, 1), false);
        is(x.hangs(4, 1), true);
        noIndex(x, () -> x.hangs(6, 0));
        noIndex(x, () -> x.hangs(-1, 0));
        noIndex(x, () -> x.hangs(0, 10));
        noIndex(x, () -> x.hangs(0, -1));
    }

    private void under() {
        Witnesshall x = new Witnesshall();
        x.decide(999983);
        is(x.under(5), "2 7 79 113 6329");
        is(x.under(4), "2 7 113");
        is(x.under(0), "");
        x.withdraw(3);
        is(x.under(5), "");
        is(x.under(4), "");
        x.decide(113);
        is(x.under(5), "2 7 79 113 6329");
        x.put(0, 561);
        is(x.under(x.seek(6, 0)), "3 11 17");
        underLate();
        noIndex(x, () -> x.under(-1));
        noIndex(x, () -> x.under(x.count(0)));
    }

    /** What hangs on papers with high numbers. */
    private void underLate() {
        Witnesshall x = new Witnesshall();
        int[] primes = {607, 613, 617, 619, 631, 641};
        int[] at = {63, 64, 65, 127, 128, 147};
        for (int i = 0; i < primes.length; i++) {
            for (int n = 2; x.count(0) < at[i]; n++) {
                if (!x.sifted(n)) {
                    x.decide(n);
                }
            }
            is(x.decide(primes[i]), at[i]);
        }
        for (int i = 0; i < primes.length; i++) {
            int k = 1;
            while (!x.sifted(2 * k * primes[i] + 1)) {
                k++;
            }
            x.put(3, 2 * k * primes[i] + 1);
            is(x.seek(9, 3), 148);
            is(x.under(148), String.valueOf(primes[i]));
            is(x.ofPaper(148, 5), 1);
            x.put(4, primes[i]);
            is(x.hangs(148, 4), true);
            x.put(4, primes[(i + 1) % primes.length]);
            is(x.hangs(148, 4), false);
            x.undo();
        }
    }

    private void near() {
        Witnesshall x = new Witnesshall();
        is(x.near(0, true), NONE);
        x.decide(7);
        is(x.near(6, true), 7);
        is(x.near(5, true), 7);
        is(x.near(4, true), NONE);
        is(x.near(7, true), NONE);
        is(x.near(7, false), NONE);
        is(x.near(8, false), 7);
        is(x.near(9, false), 7);
        is(x.near(10, false), NONE);
        x.decide(9);
        is(x.near(10, false), 7);
        is(x.near(11, false), 7);
        is(x.near(12, false), NONE);
        x.decide(2);
        is(x.near(0, true), 2);
        is(x.near(3, false), 2);
        is(x.near(2, false), NONE);
        is(x.near(4, true), NONE);
        is(x.near(4, false), NONE);
        x.next(113);
        is(x.near(126, true), 127);
        is(x.near(114, true), 127);
        is(x.near(113, true), 127);
        is(x.near(112, true), NONE);
        x.withdraw(x.decide(115));
        is(x.near(113, true), NONE);
        is(x.near(115, true), 127);
        Witnesshall five = new Witnesshall();
        five.decide(5);
        five.decide(4);
        is(five.near(0, true), NONE);
        is(five.near(1, true), NONE);
        is(five.near(3, true), 5);
        farNear();
        noArgument(x, () -> x.near(-1, true));
        noArgument(x, () -> x.near(1000001, false));
    }

    private void farNear() {
        Witnesshall x = new Witnesshall();
        is(x.next(999900), 999907);
        is(x.near(999900, true), 999907);
        x.put(0, 1000003);
        for (int q : new int[] {2, 3, 166667}) {
            x.decide(q);
        }
        x.sheet(9, 0);
        x.writeValue(2);
        x.writeValue(166667);
        is(x.file() >= 0, true);
        is(x.near(1000000, true), NONE);
        x.put(1, 1000001);
        is(x.accuse(1, 2) >= 0, true);
        is(x.near(1000000, true), 1000003);
        is(x.near(1000000, false), NONE);
        wideGap();
    }

    /** Just 200 away is near, 201 is not: the odd ones between two far primes are all decided. */
    private void wideGap() {
        Witnesshall x = new Witnesshall();
        x.decide(3);
        x.decide(2);
        for (int n = 5; n < 203; n += 2) {
            x.put(0, n);
            if (!x.sifted(n)) {
                x.decide(n);
            }
        }
        is(x.near(3, false), 2);
        is(x.near(9, false), NONE);
        Witnesshall y = new Witnesshall();
        int first = 370261;
        for (int n = first; n < first + 112; n++) {
            if (n % 2 == 1 && y.count(0) < 140) {
                y.decide(n);
            }
        }
        is(y.near(first, true), NONE);
        y.decide(first + 112);
        is(y.near(first, true), first + 112);
        is(y.near(first + 112, false), first);
        is(y.span(first, first + 112, 4), 112);
        is(y.span(first + 1, first + 112, 4), 0);
    }

    private void span() {
        Witnesshall x = new Witnesshall();
        for (int n = 2; n <= 40; n++) {
            x.decide(n);
        }
        is(x.span(0, 1000000, 0), 39);
        is(x.span(3, 40, 0), 38);
        is(x.span(2, 39, 0), 38);
        is(x.span(1000000, 1000000, 0), 0);
        is(x.span(2, 13, 1), 6);
        is(x.span(2, 12, 1), 5);
        is(x.span(3, 13, 1), 5);
        is(x.span(4, 10, 2), 5);
        is(x.span(5, 9, 2), 3);
        is(x.span(2, 13, 3), 3);
        is(x.span(2, 12, 3), 2);
        is(x.span(4, 13, 3), 2);
        is(x.span(0, 40, 3), 5);
        is(x.span(0, 40, 4), 6);
        is(x.span(0, 28, 4), 4);
        is(x.span(23, 29, 4), 6);
        is(x.span(23, 28, 4), 0);
        is(x.span(2, 3, 4), 1);
        is(x.span(5, 5, 1), 1);
        is(x.span(5, 5, 4), 0);
        x.withdraw(x.decide(25));
        is(x.span(25, 25, 0), 1);
        is(x.span(25, 25, 2), 0);
        is(x.span(0, 28, 4), 4);
        is(x.span(23, 29, 4), 0);
        x.withdraw(x.decide(13));
        is(x.span(2, 13, 1), 5);
        is(x.span(2, 13, 3), 2);
        is(x.span(11, 17, 4), 0);
        x.put(0, 11);
        x.seek(8, 0);
        is(x.span(11, 11, 0), 1);
        is(x.span(11, 11, 1), 1);
        x.make(1, 2, 127, -1);
        x.seek(11, 1);
        is(x.span(0, 1000000, 0), 39);
        noArgument(x, () -> x.span(-1, 5, 0));
        noArgument(x, () -> x.span(5, 4, 0));
        noArgument(x, () -> x.span(0, 1000001, 0));
        noArgument(x, () -> x.span(0, 5, -1));
        noArgument(x, () -> x.span(0, 5, 5));
    }

    private static Witnesshall chained() {
        Witnesshall x = new Witnesshall();
        x.decide(999983);
        x.put(0, 999983);
        x.begin(0);
        x.grow(0, true);
        x.decide(7);
        x.put(0, 7);
        x.begin(0);
        x.grow(1, false);
        x.grow(1, true);
        return x;
    }

    private void link() {
        Witnesshall x = chained();
        is(x.link(0, 0), "999983");
        is(x.link(0, 1), "499997499899");
        is(x.link(1, 2), "523");
        noIndex(x, () -> x.link(0, 2));
        noIndex(x, () -> x.link(0, -1));
        noIndex(x, () -> x.link(2, 0));
        noIndex(x, () -> x.link(-1, 0));
        x.undo();
        noIndex(x, () -> x.link(1, 2));
    }

    private void ofChain() {
        Witnesshall x = chained();
        int[][] due = {{2, 2, 39, 999914}, {3, 3, 10, 523}};
        for (int chain = 0; chain < 2; chain++) {
            for (int what = 0; what < 4; what++) {
                is(x.ofChain(chain, what), due[chain][what]);
            }
        }
        int last = x.count(0) - 1;
        is(x.paper(last), "523 yes part 2 29");
        x.withdraw(last);
        is(x.ofChain(1, 1), 2);
        is(x.ofChain(1, 0), 3);
        x.undo();
        x.withdraw(last - 1);
        is(x.ofChain(1, 1), 1);
        x.put(0, 523);
        x.seek(7, 0);
        is(x.number(0, 4), 1);
        is(x.ofChain(1, 1), 1);
        noArgument(x, () -> x.ofChain(0, -1));
        noArgument(x, () -> x.ofChain(0, 4));
        noIndex(x, () -> x.ofChain(2, 4));
        noIndex(x, () -> x.ofChain(-1, 0));
    }

    private void count() {
        Witnesshall x = chained();
        x.decide(9);
        x.put(0, 11);
        x.seek(8, 0);
        x.seek(9, 0);
        x.base(2);
        x.base(3);
        x.knock();
        x.withdraw(0);
        int[] due = {13, 8, 1, 4, 12, 7, 2, 10, 2, 1};
        for (int what = 0; what < due.length; what++) {
            is(x.count(what), due[what]);
        }
        noArgument(x, () -> x.count(-1));
        noArgument(x, () -> x.count(10));
    }

    private void isSound() {
        Witnesshall x = new Witnesshall();
        is(x.isSound(), true);
        x = chained();
        is(x.isSound(), true);
        x.withdraw(0);
        is(x.isSound(), true);
        x.decide(999999);
        x.make(0, 2, 101, -1);
        x.seek(1, 0);
        x.seek(4, 0);
        x.make(0, 2, 89, -1);
        x.seek(11, 0);
        is(x.isSound(), true);
        is(PaperPromisesTest.filled(150).isSound(), true);
    }

    private static long added(long d, long v) {
        return d * 31 + v;
    }

    private void digest() {
        is(new Witnesshall().digest(), -2710873532809964574L);
        Witnesshall x = chained();
        x.base(2);
        x.base(7);
        x.knock();
        x.withdraw(2);
        x.sheet(8, 0);
        x.writeValue(-12);
        x.put(5, -1000);
        is(x.digest(), summed(x));
        x.withdraw(0);
        is(x.digest(), summed(x));
        x.strike();
        is(x.digest(), summed(x));
        x.undo();
        x.undo();
        x.undo();
        is(x.digest(), summed(x));
        x.decide(5);
        is(x.digest(), summed(x));
        is(PaperPromisesTest.filled(150).digest(), summed(PaperPromisesTest.filled(150)));
    }

    private static long summed(Witnesshall x) {
        long d = 5601;
        for (int what = 0; what <= 9; what++) {
            d = added(d, x.count(what));
        }
        for (int place = 0; place < 10; place++) {
            for (int what = 0; what <= 4; what++) {
                d = added(d, x.number(place, what));
            }
        }
        for (int base : x.count(8) == 2 ? new int[] {2, 7} : new int[0]) {
            d = added(d, base);
        }
        d = added(d, x.sheetText().length());
        for (int paper = 0; paper < x.count(0); paper++) {
            for (int what = 0; what <= 6; what++) {
                d = added(d, x.ofPaper(paper, what));
            }
            d = added(d, x.paper(paper).length());
        }
        for (int chain = 0; chain < x.count(6); chain++) {
            for (int what = 0; what <= 3; what++) {
                d = added(d, x.ofChain(chain, what));
            }
        }
        return added(d, x.isSound() ? 1 : 0);
    }
}
