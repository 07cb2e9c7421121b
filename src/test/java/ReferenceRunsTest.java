import java.util.ArrayList;
import java.util.List;

/** Long runs of calls, each answer of the class held against that of the reference. */
public final class ReferenceRunsTest {
    private interface Call {
        Object answer();
    }

    private static final int[] SPECIAL = {0, 1, -1, 2, -2, 3, 4, 5, 6, 7, 8, 9, 10, 15, 17, 25, 31, 49, 63, 65, 127, 255,
        257, 341, 511, 561, 991, 997, 998, 999, 1000, 1001, 1009, 1105, 1729, 2047, 2465, 2821, 6601, 8911, 10585, 15841,
        29341, 65537, 41041, 825265, 399001, 999983, 999998, 999999, 1000000, 1000003, 1046527, -5, -8, 8191, 131071,
        Integer.MAX_VALUE, Integer.MIN_VALUE, 1 << 30, (1 << 30) - 1, 294409, 104729, 7919, 46337, 46349, 511557};

    private final Dice dice;
    private final Witnesshall hall = new Witnesshall();
    private final Reference reference = new Reference();
    private final List<String> log = new ArrayList<>();
    private final int profile;
    private boolean isWrong;
    private int calls;
    private int thrown;

    private ReferenceRunsTest(int seed, int profile) {
        dice = new Dice(seed);
        this.profile = profile;
    }

    private static Object outcome(Call call) {
        try {
            return call.answer();
        } catch (AssertionError e) {
            throw e;
        } catch (RuntimeException e) {
            return "throws." + e.getClass().getSimpleName();
        }
    }

    private void same(String name, Call own, Call due) {
        if (isWrong) {
            return;
        }
        calls++;
        Object got = outcome(own);
        Object want = outcome(due);
        if (got.toString().startsWith("throws.")) {
            thrown++;
        }
        log.add(name + " -> " + got);
        if (!got.equals(want)) {
            isWrong = true;
            log.add("   due is " + want);
        }
    }

    private int place() {
        return dice.oneIn(60) ? dice.of(-1, 10, Integer.MAX_VALUE, Integer.MIN_VALUE) : dice.below(10);
    }

    private int value() {
        int way = dice.below(6);
        return way == 0 ? dice.of(SPECIAL) : way == 1 ? dice.among(-300, 1100) : way == 2 ? dice.among(2, 999999)
            : way == 3 ? dice.among(2, 400) : way == 4 ? dice.among(1000, 20000) : dice.of(SPECIAL) + dice.among(-2, 2);
    }

    private int paper() {
        int size = reference.count(0);
        return dice.oneIn(40) || size == 0 ? dice.of(-1, size, size + 1, 150) : dice.below(size);
    }

    private int spot(int paper) {
        int size = paper >= 0 && paper < reference.count(0) ? reference.ofPaper(paper, 3) : 0;
        return dice.oneIn(30) ? dice.of(-1, size + 1) : dice.among(0, size);
    }

    private int chain() {
        int size = reference.count(6);
        return dice.oneIn(30) || size == 0 ? dice.of(-1, size, 5) : dice.below(size);
    }

    private int kind() {
        return dice.oneIn(50) ? dice.of(-1, 13) : dice.below(13);
    }

    private int base() {
        return dice.oneIn(40) ? dice.of(1, 0, 1001, -1) : dice.oneIn(3) ? dice.among(2, 1000) : dice.among(2, 12);
    }

    private void numbers() {
        int place = place();
        int a = place();
        int b = place();
        int c = place();
        switch (dice.below(10)) {
            case 0:
            case 1: {
                int value = value();
                same("put(" + place + ", " + value + ")", () -> hall.put(place, value), () -> reference.put(place, value));
                break;
            }
            case 2: {
                int base = dice.oneIn(30) ? dice.of(1, 1001) : dice.oneIn(2) ? 2 : dice.among(2, dice.of(10, 1000));
                int most = (int) (134 / (Math.log(Math.max(base, 2)) / Math.log(2)));
                int exponent = dice.oneIn(30) ? dice.of(-1, 130, 129) : dice.among(0, Math.min(most, 129));
                int add = dice.oneIn(30) ? dice.of(1001, -1001, 1000, -1000) : dice.among(-3, 3);
                same("make(" + place + ", " + base + ", " + exponent + ", " + add + ")",
                    () -> hall.make(place, base, exponent, add), () -> reference.make(place, base, exponent, add));
                break;
            }
            case 3:
            case 4: {
                int what = dice.oneIn(40) ? dice.of(-1, 7) : dice.below(7);
                same("work(" + place + ", " + what + ", " + a + ", " + b + ")", () -> hall.work(place, what, a, b),
                    () -> reference.work(place, what, a, b));
                break;
            }
            case 5:
                same("root(" + place + ", " + a + ")", () -> hall.root(place, a), () -> reference.root(place, a));
                break;
            case 6:
                same("power(" + place + ", " + a + ", " + b + ", " + c + ")", () -> hall.power(place, a, b, c),
                    () -> reference.power(place, a, b, c));
                break;
            case 7:
                same("inverse(" + place + ", " + a + ", " + b + ")", () -> hall.inverse(place, a, b),
                    () -> reference.inverse(place, a, b));
                break;
            case 8: {
                int by = dice.oneIn(30) ? dice.of(-141, 141, 140, -140) : dice.among(-80, dice.of(20, 140));
                same("shift(" + place + ", " + a + ", " + by + ")", () -> hall.shift(place, a, by),
                    () -> reference.shift(place, a, by));
                break;
            }
            default: {
                int p = dice.oneIn(30) ? dice.of(0, 101, -1, 100) : dice.among(1, dice.of(5, 100));
                int q = dice.oneIn(30) ? dice.of(0, 101, -101, 100, -100) : dice.among(-6, dice.of(6, 100));
                same("lucas(" + place + ", " + p + ", " + q + ", " + a + ", " + b + ")",
                    () -> hall.lucas(place, p, q, a, b), () -> reference.lucas(place, p, q, a, b));
                break;
            }
        }
    }

    private void askDesk() {
        int place = place();
        switch (dice.below(4)) {
            case 0: {
                int radix = dice.oneIn(20) ? dice.of(1, 37, 36, 2, 0) : dice.among(2, 36);
                same("desk(" + place + ", " + radix + ")", () -> hall.desk(place, radix), () -> reference.desk(place, radix));
                break;
            }
            case 1: {
                int what = dice.oneIn(30) ? dice.of(-1, 5) : dice.below(5);
                same("number(" + place + ", " + what + ")", () -> hall.number(place, what),
                    () -> reference.number(place, what));
                break;
            }
            case 2: {
                int k = dice.oneIn(20) ? dice.of(-1, 141, 140, 0) : dice.among(0, dice.of(8, 140));
                same("bit(" + place + ", " + k + ")", () -> hall.bit(place, k), () -> reference.bit(place, k));
                break;
            }
            default: {
                int b = place();
                same("compare(" + place + ", " + b + ")", () -> hall.compare(place, b), () -> reference.compare(place, b));
                break;
            }
        }
    }

    private void sheets() {
        int place = place();
        switch (dice.below(9)) {
            case 0:
            case 1: {
                int kind = kind();
                same("sheet(" + kind + ", " + place + ")", () -> hall.sheet(kind, place), () -> reference.sheet(kind, place));
                break;
            }
            case 2:
                same("write(" + place + ")", () -> hall.write(place), () -> reference.write(place));
                break;
            case 3:
            case 4: {
                int value = dice.oneIn(2) ? dice.among(-4, 13) : dice.of(2, 3, 5, 7, 11, 13, 17, 19, 23, 41, 73, 101);
                same("writeValue(" + value + ")", () -> hall.writeValue(value), () -> reference.writeValue(value));
                break;
            }
            case 5:
                same("strike()", () -> hall.strike(), () -> reference.strike());
                break;
            case 6:
                same("fault()", () -> hall.fault(), () -> reference.fault());
                break;
            case 7:
                same("sheetText()", () -> hall.sheetText(), () -> reference.sheetText());
                break;
            default:
                same("file()", () -> hall.file(), () -> reference.file());
                break;
        }
    }

    /** Lays a sheet out of a paper that there is, with a changed number here and there, and files it. */
    private void copySheet() {
        int paper = paper();
        if (paper < 0 || paper >= reference.count(0)) {
            return;
        }
        int rows = reference.ofPaper(paper, 3);
        int kind = dice.oneIn(3) ? dice.of(8, 9, 10, 6, reference.ofPaper(paper, 0)) : reference.ofPaper(paper, 0);
        same("fetch(9, " + paper + ", 0)", () -> hall.fetch(9, paper, 0), () -> reference.fetch(9, paper, 0));
        same("sheet(" + kind + ", 9)", () -> hall.sheet(kind, 9), () -> reference.sheet(kind, 9));
        for (int k = 1; k <= rows; k++) {
            int spot = k;
            if (dice.oneIn(8)) {
                continue;
            }
            same("fetch(8, " + paper + ", " + spot + ")", () -> hall.fetch(8, paper, spot),
                () -> reference.fetch(8, paper, spot));
            same("write(8)", () -> hall.write(8), () -> reference.write(8));
        }
        same("fault()", () -> hall.fault(), () -> reference.fault());
        same("file()", () -> hall.file(), () -> reference.file());
    }

    private void taking() {
        int place = place();
        switch (dice.below(8)) {
            case 0:
            case 1: {
                int kind = kind();
                same("seek(" + kind + ", " + place + ")", () -> hall.seek(kind, place), () -> reference.seek(kind, place));
                break;
            }
            case 2:
            case 3: {
                int value = value();
                same("decide(" + value + ")", () -> hall.decide(value), () -> reference.decide(value));
                break;
            }
            case 4: {
                int value = dice.oneIn(20) ? dice.of(0, 999900, 999901, 1) : dice.among(1, dice.of(60, 2000, 999900));
                same("next(" + value + ")", () -> hall.next(value), () -> reference.next(value));
                break;
            }
            case 5: {
                int base = base();
                same("accuse(" + place + ", " + base + ")", () -> hall.accuse(place, base),
                    () -> reference.accuse(place, base));
                break;
            }
            case 6: {
                int value = value();
                int kind = kind();
                same("put(0, " + value + ")", () -> hall.put(0, value), () -> reference.put(0, value));
                same("seek(" + kind + ", 0)", () -> hall.seek(kind, 0), () -> reference.seek(kind, 0));
                break;
            }
            default: {
                int exponent = dice.of(2, 4, 8, 16, 32, 64, 128, 3, 5, 7, 9, 11, 13, 31, 61, 67, 89, 107, 127, 129);
                int add = dice.of(-1, 1);
                int kind = dice.of(1, 2, 4, 5, 11, 12);
                same("make(7, 2, " + exponent + ", " + add + ")", () -> hall.make(7, 2, exponent, add),
                    () -> reference.make(7, 2, exponent, add));
                same("seek(" + kind + ", 7)", () -> hall.seek(kind, 7), () -> reference.seek(kind, 7));
                break;
            }
        }
    }

    private void changing() {
        int paper = paper();
        switch (dice.below(7)) {
            case 0:
            case 1:
                same("withdraw(" + paper + ")", () -> hall.withdraw(paper), () -> reference.withdraw(paper));
                break;
            case 2:
            case 3:
                same("restore(" + paper + ")", () -> hall.restore(paper), () -> reference.restore(paper));
                break;
            case 4:
                same("undo()", () -> hall.undo(), () -> reference.undo());
                break;
            case 5: {
                int base = base();
                same("base(" + base + ")", () -> hall.base(base), () -> reference.base(base));
                break;
            }
            default: {
                int which = dice.among(-1, dice.of(2, 6));
                same("drop(" + which + ")", () -> hall.drop(which), () -> reference.drop(which));
                break;
            }
        }
    }

    private void chaining() {
        int chain = chain();
        int place = place();
        switch (dice.below(6)) {
            case 0:
                same("begin(" + place + ")", () -> hall.begin(place), () -> reference.begin(place));
                break;
            case 1:
            case 2: {
                boolean isFast = dice.oneIn(2);
                same("grow(" + chain + ", " + isFast + ")", () -> hall.grow(chain, isFast),
                    () -> reference.grow(chain, isFast));
                break;
            }
            case 3: {
                int k = dice.among(-1, 8);
                same("take(" + place + ", " + chain + ", " + k + ")", () -> hall.take(place, chain, k),
                    () -> reference.take(place, chain, k));
                break;
            }
            case 4: {
                int k = dice.among(-1, 8);
                same("link(" + chain + ", " + k + ")", () -> hall.link(chain, k), () -> reference.link(chain, k));
                break;
            }
            default: {
                int what = dice.among(-1, 4);
                same("ofChain(" + chain + ", " + what + ")", () -> hall.ofChain(chain, what),
                    () -> reference.ofChain(chain, what));
                break;
            }
        }
    }

    private void askRounds() {
        int place = place();
        int base = base();
        int from = dice.oneIn(20) ? dice.of(4, 5, 999999, 1000000) : dice.among(5, dice.of(100, 3000, 999999));
        switch (dice.below(6)) {
            case 0:
                same("round(" + place + ", " + base + ")", () -> hall.round(place, base), () -> reference.round(place, base));
                break;
            case 1:
                same("passes(" + place + ")", () -> hall.passes(place), () -> reference.passes(place));
                break;
            case 2:
                same("passer(" + from + ")", () -> hall.passer(from), () -> reference.passer(from));
                break;
            case 3: {
                int many = dice.among(0, 61);
                same("passing(" + from + ", " + many + ")", () -> hall.passing(from, many),
                    () -> reference.passing(from, many));
                break;
            }
            case 4: {
                int value = dice.among(3, 257);
                same("witnesses(" + value + ")", () -> hall.witnesses(value), () -> reference.witnesses(value));
                break;
            }
            default: {
                int value = value();
                same("sifted(" + value + ")", () -> hall.sifted(value), () -> reference.sifted(value));
                break;
            }
        }
    }

    private void askPapers() {
        int paper = paper();
        int place = place();
        switch (dice.below(10)) {
            case 0:
                same("paper(" + paper + ")", () -> hall.paper(paper), () -> reference.paper(paper));
                break;
            case 1: {
                int what = dice.among(-1, 7);
                same("ofPaper(" + paper + ", " + what + ")", () -> hall.ofPaper(paper, what),
                    () -> reference.ofPaper(paper, what));
                break;
            }
            case 2:
            case 3: {
                int spot = spot(paper);
                int by = dice.oneIn(20) ? dice.of(-4, 4) : dice.among(-3, 3);
                same("damaged(" + paper + ", " + spot + ", " + by + ")", () -> hall.damaged(paper, spot, by),
                    () -> reference.damaged(paper, spot, by));
                break;
            }
            case 4:
                same("hangs(" + paper + ", " + place + ")", () -> hall.hangs(paper, place),
                    () -> reference.hangs(paper, place));
                break;
            case 5:
                same("under(" + paper + ")", () -> hall.under(paper), () -> reference.under(paper));
                break;
            case 6:
            case 7: {
                int value = dice.oneIn(20) ? dice.of(-1, 1000000, 1000001, 0) : dice.among(0, dice.of(30, 3000, 1000000));
                boolean isAbove = dice.oneIn(2);
                same("near(" + value + ", " + isAbove + ")", () -> hall.near(value, isAbove),
                    () -> reference.near(value, isAbove));
                break;
            }
            case 8: {
                int from = dice.oneIn(20) ? dice.of(-1, 1000001, 0) : dice.among(0, dice.of(30, 3000, 1000000));
                int to = dice.oneIn(20) ? dice.of(-1, 1000001, from - 1) : dice.among(from, from + dice.of(40, 3000, 600000));
                int what = dice.among(-1, 5);
                same("span(" + from + ", " + to + ", " + what + ")", () -> hall.span(from, to, what),
                    () -> reference.span(from, to, what));
                break;
            }
            default: {
                int what = dice.among(-1, 10);
                same("count(" + what + ")", () -> hall.count(what), () -> reference.count(what));
                break;
            }
        }
    }

    /** A stretch of neighbours, all decided, so that gaps and twins are proved. */
    private void stretch() {
        int from = dice.of(2, 2, 90, 113, 880, 990, 31397, 999000, 999900);
        for (int i = 0; i < 25; i++) {
            int value = from + i;
            same("decide(" + value + ")", () -> hall.decide(value), () -> reference.decide(value));
        }
    }

    /** Takes papers till there is hardly room. */
    private void fill() {
        for (int i = 0; i < 40 && reference.count(0) < 147; i++) {
            int value = dice.among(1000, 990000);
            same("next(" + value + ")", () -> hall.next(value), () -> reference.next(value));
        }
        for (int i = 0; i < 30 && reference.count(0) < 150 - dice.below(4); i++) {
            int value = dice.among(2, 999);
            same("decide(" + value + ")", () -> hall.decide(value), () -> reference.decide(value));
        }
    }

    private void step() {
        int[][] weights = {
            {8, 3, 3, 1, 4, 3, 2, 2, 5, 1, 0}, {14, 8, 1, 0, 1, 1, 0, 2, 1, 0, 0}, {2, 1, 6, 4, 8, 6, 4, 1, 8, 2, 0},
            {2, 1, 1, 1, 5, 4, 8, 1, 5, 0, 0}, {1, 1, 2, 2, 6, 5, 3, 1, 5, 1, 1}};
        int[] mine = weights[profile % weights.length];
        int all = 0;
        for (int weight : mine) {
            all += weight;
        }
        int pick = dice.below(all);
        int group = 0;
        while (pick >= mine[group]) {
            pick -= mine[group];
            group++;
        }
        switch (group) {
            case 0:
                numbers();
                break;
            case 1:
                askDesk();
                break;
            case 2:
                sheets();
                break;
            case 3:
                copySheet();
                break;
            case 4:
                taking();
                break;
            case 5:
                changing();
                break;
            case 6:
                chaining();
                break;
            case 7:
                askRounds();
                break;
            case 8:
                askPapers();
                break;
            case 9:
                if (dice.oneIn(6)) {
                    stretch();
                }
                break;
            default:
                if (dice.oneIn(3)) {
                    fill();
                }
                break;
        }
    }

    private void look() {
        same("digest()", () -> hall.digest(), () -> reference.digest());
        same("isSound()", () -> hall.isSound(), () -> reference.isSound());
        for (int i = 0; i < reference.count(0); i++) {
            int paper = i;
            same("paper(" + paper + ")", () -> hall.paper(paper), () -> reference.paper(paper));
            same("under(" + paper + ")", () -> hall.under(paper), () -> reference.under(paper));
        }
    }

    private boolean play() {
        for (int i = 0; i < 450 && calls < 480 && !isWrong; i++) {
            step();
            if (dice.oneIn(40)) {
                same("knock()", () -> hall.knock(), () -> reference.knock());
                same("digest()", () -> hall.digest(), () -> reference.digest());
            }
        }
        look();
        if (isWrong) {
            for (String line : log) {
                System.out.println("  " + line);
            }
        }
        return isWrong;
    }

    public static void main(String[] args) {
        int runs = args.length > 0 ? Integer.parseInt(args[0]) : 150;
        int start = args.length > 1 ? Integer.parseInt(args[1]) : 0;
        int wrong = 0;
        long calls = 0;
        long thrown = 0;
        int fullest = 0;
        for (int seed = start; seed < start + runs && wrong < 3; seed++) {
            ReferenceRunsTest run = new ReferenceRunsTest(seed, seed);
            if (run.play()) {
                wrong++;
                System.out.println("run " + seed + " went wrong");
            }
            calls += run.calls;
            thrown += run.thrown;
            fullest = Math.max(fullest, run.reference.count(0));
        }
        System.out.println(calls + " calls (" + thrown + " of them throw), " + fullest + " papers at most, "
            + wrong + " runs wrong");
        if (wrong > 0) {
            System.exit(1);
        }
    }
}
