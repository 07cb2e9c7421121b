/** An office of witnesses: whether a number is a prime is told by papers for yes and papers for no. */
public final class Witnesshall {
    private static final int NONE = -1;
    private static final int NO_ROOM = -2;
    private static final int WRITTEN = -3;
    private static final int NOTHING = -9;

    private static final int PLACES = 10;
    private static final int LONGEST = 130;
    private static final int LAST_SOUGHT = 999999;
    private static final int MOST_BASES = 6;
    private static final int MOST_CHAINS = 5;
    private static final int MOST_LINKS = 8;
    private static final int KINDS = 13;
    private static final int FOLDED = 1000003;

    private static final int DIVISOR = 0;
    private static final int POWER = 1;
    private static final int ROOT = 2;
    private static final int LUCAS = 3;
    private static final int SQUARES_NO = 4;
    private static final int THREE_NO = 5;
    private static final int CARMICHAEL = 6;
    private static final int SMALL = 7;
    private static final int FULL = 8;
    private static final int PART = 9;
    private static final int PLUS = 10;
    private static final int SQUARES_YES = 11;
    private static final int THREE_YES = 12;

    private final Row desk = new Row(PLACES);
    private final Sheet laid = new Sheet();
    private boolean hasSheet;
    private final int[] bases = new int[MOST_BASES];
    private int baseSize;
    private final Row[] chains = new Row[MOST_CHAINS];
    private int chainSize;
    private int refused;

    private final Clerk clerk = new Clerk();
    private final Checker checker = clerk.checker;
    private final Archive archive = clerk.archive;
    private final Reckoner reckoner = clerk.reckoner;
    private final Journal journal = new Journal();
    private final Scribe scribe = new Scribe();
    private final Big one = new Big(Big.WIDE);
    private final Big result = new Big(Big.WIDE);
    private final Big other = new Big(Big.WIDE);
    private final Big rest = new Big(Big.WIDE);

    public Witnesshall() {
        one.setTo(1);
        for (int i = 0; i < MOST_CHAINS; i++) {
            chains[i] = new Row(MOST_LINKS);
        }
    }

    // ---- what is tested before a call does anything

    private static void needIndex(boolean isThere) {
        if (!isThere) {
            throw new IndexOutOfBoundsException();
        }
    }

    private static void needPlace(int place) {
        needIndex(place >= 0 && place < PLACES);
    }

    private static void needArgument(boolean isInBounds) {
        if (!isInBounds) {
            throw new IllegalArgumentException();
        }
    }

    private static void needState(boolean isSo) {
        if (!isSo) {
            throw new IllegalStateException();
        }
    }

    private void needPaper(int paper) {
        needIndex(paper >= 0 && paper < archive.size);
    }

    private void needSpot(int paper, int spot) {
        needPaper(paper);
        needIndex(spot >= 0 && spot < archive.at(paper).sheet.row.size);
    }

    private void needChain(int chain) {
        needIndex(chain >= 0 && chain < chainSize);
    }

    private void needLink(int chain, int k) {
        needChain(chain);
        needIndex(k >= 0 && k < chainAt(chain).size);
    }

    private Row chainAt(int chain) {
        return chain >= 0 && chain < MOST_CHAINS ? chains[chain] : chains[0];
    }

    // ---- numbers on the desk

    /** Puts a reckoned number on the DESK, if it is WITHIN. */
    private int lay(int place, Big value) {
        int length = value.length();
        needState(length <= LONGEST);
        desk.at(place).copy(value);
        return length;
    }

    public int put(int place, int value) throws IndexOutOfBoundsException {
        needPlace(place);
        result.setTo(value);
        return lay(place, result);
    }

    public int make(int place, int base, int exponent, int add)
            throws IndexOutOfBoundsException, IllegalArgumentException, IllegalStateException {
        needPlace(place);
        needArgument(base >= 2 && base <= 1000 && exponent >= 0 && exponent <= 129 && add >= -1000 && add <= 1000);
        needState(reckoner.raise(result, base, exponent));
        other.setTo(add);
        result.sum(result, other, false);
        return lay(place, result);
    }

    public int work(int place, int what, int a, int b)
            throws IndexOutOfBoundsException, IllegalArgumentException, IllegalStateException {
        needPlace(place);
        needPlace(a);
        needPlace(b);
        needArgument(what >= 0 && what <= 6);
        Big first = desk.at(a);
        Big second = desk.at(b);
        if ((what == 3 || what == 4) && second.sign() == 0 || what == 5 && second.sign() <= 0) {
            return NOTHING;
        }
        switch (what) {
            case 0:
            case 1:
                result.sum(first, second, what == 1);
                break;
            case 2:
                result.times(first, second);
                break;
            case 3:
                other.copy(first);
                other.divide(second, result);
                break;
            case 4:
                result.copy(first);
                result.divide(second, null);
                break;
            case 5:
                result.copy(first);
                result.modulo(second);
                break;
            default:
                reckoner.gcd(result, first, second);
                break;
        }
        return lay(place, result);
    }

    public int root(int place, int a) throws IndexOutOfBoundsException {
        needPlace(place);
        needPlace(a);
        if (desk.at(a).sign() < 0) {
            return NOTHING;
        }
        reckoner.rootOf(result, desk.at(a));
        return lay(place, result);
    }

    public int power(int place, int a, int e, int m) throws IndexOutOfBoundsException, IllegalStateException {
        needPlace(place);
        needPlace(a);
        needPlace(e);
        needPlace(m);
        Big exponent = desk.at(e);
        Big modulus = desk.at(m);
        needState(desk.at(a).sign() != 0 || exponent.sign() != 0);
        if (modulus.sign() <= 0) {
            return NOTHING;
        }
        result.copy(desk.at(a));
        if (exponent.sign() < 0 && !reckoner.inverseMod(result, result, modulus)) {
            return NOTHING;
        }
        reckoner.powMod(result, result, exponent, modulus);
        return lay(place, result);
    }

    public int inverse(int place, int a, int m) throws IndexOutOfBoundsException {
        needPlace(place);
        needPlace(a);
        needPlace(m);
        if (desk.at(m).sign() <= 0 || !reckoner.inverseMod(result, desk.at(a), desk.at(m))) {
            return NOTHING;
        }
        return lay(place, result);
    }

    public int shift(int place, int a, int by)
            throws IndexOutOfBoundsException, IllegalArgumentException, IllegalStateException {
        needPlace(place);
        needPlace(a);
        needArgument(by >= -140 && by <= 140);
        Big value = desk.at(a);
        needState(value.sign() == 0 || value.length() + by <= LONGEST);
        other.setToPower(by < 0 ? -by : by);
        if (by >= 0) {
            result.times(value, other);
        } else {
            rest.copy(value);
            rest.divide(other, result);
            if (rest.sign() < 0) {
                result.sum(result, one, true);
            }
        }
        return lay(place, result);
    }

    public int lucas(int place, int p, int q, int k, int m)
            throws IndexOutOfBoundsException, IllegalArgumentException, IllegalStateException {
        needPlace(place);
        needPlace(k);
        needPlace(m);
        needArgument(p >= 1 && p <= 100 && q >= -100 && q <= 100 && q != 0);
        needState(desk.at(k).sign() >= 0);
        if (desk.at(m).sign() <= 0) {
            return NOTHING;
        }
        reckoner.lucasMod(result, p, q, desk.at(k), desk.at(m));
        return lay(place, result);
    }

    public int fetch(int place, int paper, int spot) throws IndexOutOfBoundsException {
        needPlace(place);
        needSpot(paper, spot);
        return lay(place, archive.at(paper).sheet.row.at(spot));
    }

    public int take(int place, int chain, int k) throws IndexOutOfBoundsException {
        needPlace(place);
        needLink(chain, k);
        return lay(place, chainAt(chain).at(k));
    }

    // ---- the sheet

    public int sheet(int kind, int place) throws IndexOutOfBoundsException, IllegalArgumentException {
        needPlace(place);
        needArgument(kind >= 0 && kind < KINDS);
        laid.open(kind, desk.at(place));
        hasSheet = true;
        return checker.faultOf(laid);
    }

    /** Writes at the end of the ROW of the SHEET; tells how many are in it. */
    private int writeLast(Big value) {
        needState(hasSheet && !laid.row.isFull());
        laid.row.append(value);
        return laid.row.size - 1;
    }

    public int write(int place) throws IndexOutOfBoundsException, IllegalStateException {
        needPlace(place);
        return writeLast(desk.at(place));
    }

    public int writeValue(int value) throws IllegalStateException {
        result.setTo(value);
        return writeLast(result);
    }

    public int strike() throws IllegalStateException {
        needState(hasSheet && laid.row.size > 1);
        laid.row.size--;
        return laid.row.size - 1;
    }

    public int file() throws IllegalStateException {
        needState(hasSheet && !archive.isFull());
        needState(archive.find(laid.row.at(0), Archive.HELD, laid.kind) == NONE);
        int found = checker.faultOf(laid);
        if (found != NONE) {
            return -1 - found;
        }
        int before = archive.size;
        hasSheet = false;
        return settleCall(archive.add(laid), before);
    }

    // ---- papers

    /** Ends a call that may have taken PAPERS: it is an ENTRY if it took some, and leaves none if it failed. */
    private int settleCall(int told, int before) {
        if (told < 0) {
            archive.cutTo(before);
        }
        needState(told != NO_ROOM);
        if (archive.size > before) {
            journal.note(Journal.TOOK, before, 0);
        }
        return told;
    }

    private static boolean isBounded(int kind) {
        return kind == DIVISOR || kind == LUCAS || kind >= CARMICHAEL && kind <= PLUS;
    }

    public int seek(int kind, int place)
            throws IndexOutOfBoundsException, IllegalArgumentException, IllegalStateException {
        needPlace(place);
        needArgument(kind >= 0 && kind < KINDS);
        Big n = desk.at(place);
        needState(!isBounded(kind) || n.toInt() <= LAST_SOUGHT);
        if (!checker.opens(kind, n)) {
            return NONE;
        }
        int held = archive.find(n, Archive.HELD, kind);
        if (held != NONE) {
            return held;
        }
        int value = n.toInt();
        if (kind >= FULL && kind <= PLUS && !Sieve.isSifted(value)) {
            return NONE;
        }
        int before = archive.size;
        int told = 0;
        int factor = Sieve.ruleFactor(kind, value, 0);
        for (int i = 0; i < Sieve.MOST_FACTORS && factor > 0 && told >= 0; i++) {
            told = clerk.decideOne(factor);
            factor = Sieve.ruleFactor(kind, value, factor);
        }
        return settleCall(told < 0 ? told : clerk.seekNew(kind, n), before);
    }

    public int decide(int value) throws IllegalArgumentException, IllegalStateException {
        needArgument(value >= 2 && value <= LAST_SOUGHT);
        int before = archive.size;
        return settleCall(clerk.decideOne(value), before);
    }

    public int next(int value) throws IllegalArgumentException, IllegalStateException {
        needArgument(value >= 1 && value <= 999900);
        int before = archive.size;
        int told = 0;
        int found = NONE;
        for (int n = value + 1; n <= LAST_SOUGHT && told >= 0 && found == NONE; n++) {
            if (n % 2 == 1 || n == 2) {
                told = clerk.decideOne(n);
                found = archive.verdictOf(n) == 1 ? n : NONE;
            }
        }
        settleCall(told, before);
        return found;
    }

    public int accuse(int place, int base)
            throws IndexOutOfBoundsException, IllegalArgumentException, IllegalStateException {
        int says = round(place, base);
        if (says == 0) {
            return NONE;
        }
        int kind = says == 1 ? POWER : ROOT;
        int held = archive.find(desk.at(place), Archive.HELD, kind);
        if (held != NONE) {
            return held;
        }
        int before = archive.size;
        clerk.writeFinding(kind, desk.at(place));
        return settleCall(archive.add(clerk.draft), before);
    }

    public int withdraw(int paper) throws IndexOutOfBoundsException, IllegalStateException {
        needPaper(paper);
        Paper told = archive.at(paper);
        needState(told.isHeld);
        told.isHeld = false;
        archive.settle();
        journal.note(Journal.WITHDREW, archive.size, paper);
        return archive.tally(Paper.LOOSE);
    }

    public int restore(int paper) throws IndexOutOfBoundsException, IllegalStateException {
        needPaper(paper);
        Paper told = archive.at(paper);
        needState(!told.isHeld && archive.find(told.sheet.row.at(0), Archive.HELD, told.sheet.kind) == NONE);
        told.isHeld = true;
        archive.settle();
        journal.note(Journal.RESTORED, archive.size, paper);
        return archive.tally(Paper.LOOSE);
    }

    public int undo() throws IllegalStateException {
        needState(journal.size > 0);
        journal.size--;
        int which = journal.whichOf(journal.size);
        switch (journal.deedOf(journal.size)) {
            case Journal.WITHDREW:
                archive.at(which).isHeld = true;
                break;
            case Journal.RESTORED:
                archive.at(which).isHeld = false;
                break;
            case Journal.BEGAN:
                chainSize--;
                break;
            case Journal.GREW:
                chainAt(which).size--;
                break;
            default:
                break;
        }
        archive.cutTo(journal.beforeOf(journal.size));
        return archive.size;
    }

    // ---- bases and chains

    public int base(int base) throws IllegalArgumentException, IllegalStateException {
        needArgument(base >= 2 && base <= 1000);
        boolean isNew = baseSize < MOST_BASES;
        for (int i = 0; i < baseSize; i++) {
            isNew = isNew && bases[i] != base;
        }
        needState(isNew);
        bases[baseSize] = base;
        baseSize++;
        return baseSize;
    }

    public int drop(int which) throws IndexOutOfBoundsException {
        needIndex(which >= 0 && which < baseSize);
        int dropped = bases[which];
        baseSize--;
        for (int i = which; i < baseSize; i++) {
            bases[i] = bases[i + 1];
        }
        return dropped;
    }

    public int begin(int place) throws IndexOutOfBoundsException, IllegalStateException {
        needPlace(place);
        Big n = desk.at(place);
        needState(chainSize < MOST_CHAINS && n.hasBit(0) && archive.verdict(n) == 1);
        Row chain = chainAt(chainSize);
        chain.size = 0;
        chain.append(n);
        chainSize++;
        journal.note(Journal.BEGAN, archive.size, chainSize - 1);
        return chainSize - 1;
    }

    public int grow(int chain, boolean isFast) throws IndexOutOfBoundsException, IllegalStateException {
        needChain(chain);
        Row grown = chainAt(chain);
        Big last = grown.at(grown.size - 1);
        needState(!grown.isFull() && archive.verdict(last) == 1);
        int step = clerk.growStep(last, isFast);
        if (step == NONE) {
            return NONE;
        }
        int before = archive.size;
        Big n = clerk.draft.row.at(0);
        if (archive.find(n, Archive.HELD, PART) == NONE) {
            needState(archive.add(clerk.draft) != NO_ROOM);
        }
        grown.append(n);
        journal.note(Journal.GREW, before, chain);
        return step;
    }

    public int knock() {
        refused++;
        return refused;
    }

    // ---- what the desk is asked

    public String desk(int place, int radix) throws IndexOutOfBoundsException, IllegalArgumentException {
        needPlace(place);
        needArgument(radix >= 2 && radix <= 36);
        return scribe.textOf(desk.at(place), radix);
    }

    public int number(int place, int what) throws IndexOutOfBoundsException, IllegalArgumentException {
        needPlace(place);
        needArgument(what >= 0 && what <= 4);
        Big n = desk.at(place);
        switch (what) {
            case 0:
                return n.sign();
            case 1:
                return n.length();
            case 2:
                return n.halves();
            case 3:
                return n.fold();
            default:
                return archive.verdict(n);
        }
    }

    public boolean bit(int place, int k) throws IndexOutOfBoundsException, IllegalArgumentException {
        needPlace(place);
        needArgument(k >= 0 && k <= 140);
        Big n = desk.at(place);
        // below 0, the BITS above the lowest that is 1 are those of the number without its sign, turned over
        return n.hasBit(k) != (n.sign() < 0 && k > n.halves());
    }

    public int compare(int a, int b) throws IndexOutOfBoundsException {
        needPlace(a);
        needPlace(b);
        return Big.order(desk.at(a), desk.at(b));
    }

    public int fault() throws IllegalStateException {
        needState(hasSheet);
        return checker.faultOf(laid);
    }

    public String sheetText() {
        return hasSheet ? scribe.textOfSheet(laid) : "";
    }

    // ---- rounds

    public int round(int place, int base)
            throws IndexOutOfBoundsException, IllegalArgumentException, IllegalStateException {
        needPlace(place);
        needArgument(base >= 2 && base <= 1000);
        needState(desk.at(place).isFit());
        return reckoner.roundOf(desk.at(place), base);
    }

    public int passes(int place) throws IndexOutOfBoundsException, IllegalStateException {
        needPlace(place);
        needState(desk.at(place).isFit());
        int sum = 0;
        for (int k = 0; k < baseSize; k++) {
            if (reckoner.roundOf(desk.at(place), bases[k]) == 0) {
                sum += 1 << k;
            }
        }
        return sum;
    }

    private boolean isPassedByAll(int n) {
        result.setTo(n);
        for (int k = 0; k < baseSize; k++) {
            if (reckoner.roundOf(result, bases[k]) != 0) {
                return false;
            }
        }
        return true;
    }

    public int passer(int from) throws IllegalArgumentException {
        needArgument(from >= 5 && from <= LAST_SOUGHT);
        int first = from | 1;
        for (int i = 0; i < 100; i++) {
            int n = first + 2 * i;
            if (!Sieve.isSifted(n) && isPassedByAll(n)) {
                return n;
            }
        }
        return NONE;
    }

    public int passing(int from, int many) throws IllegalArgumentException {
        needArgument(from >= 5 && from <= LAST_SOUGHT && many >= 1 && many <= 60);
        int first = from | 1;
        int told = 0;
        for (int i = 0; i < many; i++) {
            if (isPassedByAll(first + 2 * i)) {
                told++;
            }
        }
        return told;
    }

    public int witnesses(int value) throws IllegalArgumentException, IllegalStateException {
        needArgument(value >= 5 && value <= 255);
        needState(value % 2 == 1);
        result.setTo(value);
        int told = 0;
        for (int i = 1; i < value; i++) {
            if (reckoner.roundOf(result, i) != 0) {
                told++;
            }
        }
        return told;
    }

    public boolean sifted(int value) throws IllegalArgumentException {
        needArgument(value >= 2 && value <= LAST_SOUGHT);
        return Sieve.isSifted(value);
    }

    // ---- what the papers are asked

    public String paper(int paper) throws IndexOutOfBoundsException {
        needPaper(paper);
        return scribe.textOfSheet(archive.at(paper).sheet);
    }

    public int ofPaper(int paper, int what) throws IndexOutOfBoundsException, IllegalArgumentException {
        needPaper(paper);
        needArgument(what >= 0 && what <= 6);
        Paper told = archive.at(paper);
        switch (what) {
            case 0:
                return told.sheet.kind;
            case 1:
                return told.sheet.isYes() ? 1 : 0;
            case 2:
                return told.standing();
            case 3:
                return told.sheet.row.size - 1;
            case 4:
                return told.depth;
            case 5:
                return told.underSize();
            default:
                return told.sheet.row.at(0).fold();
        }
    }

    public int damaged(int paper, int spot, int by) throws IndexOutOfBoundsException, IllegalArgumentException {
        needSpot(paper, spot);
        needArgument(by >= -3 && by <= 3);
        Sheet draft = clerk.draft;
        draft.kind = archive.at(paper).sheet.kind;
        draft.row.copyRow(archive.at(paper).sheet.row);
        other.setTo(by);
        draft.row.at(spot).sum(draft.row.at(spot), other, false);
        return checker.faultOf(draft);
    }

    public boolean hangs(int paper, int place) throws IndexOutOfBoundsException {
        needPaper(paper);
        needPlace(place);
        return archive.at(paper).hasUnder(archive.find(desk.at(place), Archive.YES, 0));
    }

    public String under(int paper) throws IndexOutOfBoundsException {
        needPaper(paper);
        return scribe.textOfUnder(archive, archive.at(paper));
    }

    public int near(int value, boolean isAbove) throws IllegalArgumentException {
        needArgument(value >= 0 && value <= 1000000);
        return archive.nearest(value, isAbove);
    }

    public int span(int from, int to, int what) throws IllegalArgumentException {
        needArgument(from >= 0 && from <= 1000000 && to >= from && to <= 1000000 && what >= 0 && what <= 4);
        return archive.survey(from, to, what);
    }

    public String link(int chain, int k) throws IndexOutOfBoundsException {
        needLink(chain, k);
        return scribe.textOf(chainAt(chain).at(k), 10);
    }

    public int ofChain(int chain, int what) throws IndexOutOfBoundsException, IllegalArgumentException {
        needChain(chain);
        needArgument(what >= 0 && what <= 3);
        Row told = chainAt(chain);
        switch (what) {
            case 0:
                return told.size;
            case 1:
                return safePart(told);
            case 2:
                return told.at(told.size - 1).length();
            default:
                return told.at(told.size - 1).fold();
        }
    }

    private int safePart(Row chain) {
        for (int k = 0; k < chain.size; k++) {
            if (archive.verdict(chain.at(k)) != 1) {
                return k;
            }
        }
        return chain.size;
    }

    public int count(int what) throws IllegalArgumentException {
        needArgument(what >= 0 && what <= 9);
        switch (what) {
            case 0:
                return archive.size;
            case 1:
                return archive.tally(Paper.TRUSTED);
            case 2:
                return archive.tally(Paper.WITHDRAWN);
            case 3:
                return archive.tally(Paper.LOOSE);
            case 4:
            case 5:
                return archive.survey(0, Big.FARTHEST, what - 4);
            case 6:
                return chainSize;
            case 7:
                return journal.size;
            case 8:
                return baseSize;
            default:
                return refused;
        }
    }

    public boolean isSound() {
        if (!archive.isAgreed() || !archive.isSettled()) {
            return false;
        }
        for (int i = 0; i < archive.size; i++) {
            if (!isBorneOut(archive.at(i))) {
                return false;
            }
        }
        for (int c = 0; c < chainSize; c++) {
            Row chain = chainAt(c);
            for (int k = 1; k < chain.size; k++) {
                result.sum(chain.at(k), one, true);
                other.sum(chain.at(k - 1), chain.at(k - 1), false);
                result.divide(other, null);
                if (result.sign() != 0) {
                    return false;
                }
            }
        }
        return true;
    }

    /** Whether SIFTING, or the ROUND of 2, tells what the PAPER tells; its TEXT stays, so this is kept. */
    private boolean isBorneOut(Paper paper) {
        if (paper.borneOut == 0) {
            Big n = paper.sheet.row.at(0);
            boolean isYes = paper.sheet.isYes();
            boolean isSo = n.toInt() <= LAST_SOUGHT
                    ? Sieve.isSifted(n.toInt()) == isYes
                    : !isYes || n.isFit() && reckoner.roundOf(n, 2) == 0;
            paper.borneOut = isSo ? 1 : -1;
        }
        return paper.borneOut > 0;
    }

    public long digest() {
        long d = 5601;
        for (int what = 0; what < 10; what++) {
            d = d * 31 + count(what);
        }
        for (int place = 0; place < PLACES; place++) {
            for (int what = 0; what < 5; what++) {
                d = d * 31 + number(place, what);
            }
        }
        for (int i = 0; i < baseSize; i++) {
            d = d * 31 + bases[i];
        }
        d = d * 31 + (hasSheet ? scribe.lengthOf(laid) : 0);
        for (int i = 0; i < archive.size; i++) {
            for (int what = 0; what < 7; what++) {
                d = d * 31 + ofPaper(i, what);
            }
            d = d * 31 + textLength(archive.at(i));
        }
        for (int i = 0; i < chainSize; i++) {
            for (int what = 0; what < 4; what++) {
                d = d * 31 + ofChain(i, what);
            }
        }
        return d * 31 + (isSound() ? 1 : 0);
    }

    private int textLength(Paper paper) {
        if (paper.textLength == 0) {
            paper.textLength = scribe.lengthOf(paper.sheet);
        }
        return paper.textLength;
    }

    /** A whole number that can be written over; its digits, to the radix 2^30, stand lowest first. */
    private static final class Big {
        private static final int STORED = 5;
        private static final int WIDE = 10;
        private static final int STEP = 30;
        private static final int MASK = (1 << STEP) - 1;
        private static final int FARTHEST = 2147483647;

        private final int[] digit;
        private int size;
        private boolean isNegative;

        Big(int room) {
            digit = new int[room < STORED ? STORED : room];
        }

        void setTo(long value) {
            isNegative = value < 0;
            long rest = value < 0 ? -value : value;
            size = 0;
            for (int i = 0; i < 3 && rest != 0; i++) {
                digit[i] = (int) (rest & MASK);
                rest >>>= STEP;
                size = i + 1;
            }
        }

        void setToPower(int exponent) {
            int top = exponent / STEP;
            size = 0;
            isNegative = false;
            for (int i = 0; i <= top && i < digit.length; i++) {
                digit[i] = i == top ? 1 << (exponent % STEP) : 0;
                size = i + 1;
            }
        }

        void copy(Big from) {
            size = from.size < digit.length ? from.size : digit.length;
            isNegative = from.isNegative;
            for (int i = 0; i < size; i++) {
                digit[i] = from.digit[i];
            }
        }

        int sign() {
            return size == 0 ? 0 : isNegative ? -1 : 1;
        }

        /** The number, if it has one digit; otherwise one that is farther out than all those. */
        int toInt() {
            if (size > 1) {
                return isNegative ? -FARTHEST : FARTHEST;
            }
            int value = size == 0 ? 0 : digit[0];
            return isNegative ? -value : value;
        }

        boolean is(int small) {
            return size == 1 && digit[0] == small && !isNegative;
        }

        boolean isFit() {
            return hasBit(0) && toInt() >= 5;
        }

        static int order(Big a, Big b) {
            if (a.isNegative != b.isNegative) {
                return a.isNegative ? -1 : 1;
            }
            int found = a.size == b.size ? 0 : a.size < b.size ? -1 : 1;
            for (int i = a.size - 1; i >= 0 && found == 0; i--) {
                found = a.digit[i] == b.digit[i] ? 0 : a.digit[i] < b.digit[i] ? -1 : 1;
            }
            return a.isNegative ? -found : found;
        }

        /** How many bits a digit has. */
        private static int bitsOf(int digit) {
            int bits = 0;
            int rest = digit;
            for (int half = 16; half > 0; half /= 2) {
                if (rest >> half != 0) {
                    rest >>= half;
                    bits += half;
                }
            }
            return bits + rest;
        }

        /** How many bits it has without its sign. */
        int bits() {
            return size == 0 ? 0 : (size - 1) * STEP + bitsOf(digit[size - 1]);
        }

        /** LENGTH. */
        int length() {
            int bits = bits();
            return isNegative && halves() == bits - 1 ? bits - 1 : bits;
        }

        /** HALVES. */
        int halves() {
            for (int i = 0; i < size; i++) {
                if (digit[i] != 0) {
                    return i * STEP + bitsOf(digit[i] & -digit[i]) - 1;
                }
            }
            return NONE;
        }

        /** Whether bit k is 1, without the sign. */
        boolean hasBit(int k) {
            int at = k / STEP;
            return at < size && (digit[at] >> (k % STEP) & 1) == 1;
        }

        /** What is left of it, without its sign, when small is taken off as often as it goes. */
        int restBy(int small) {
            long rest = 0;
            for (int i = size - 1; i >= 0 && small > 0; i--) {
                rest = (rest << STEP | digit[i]) % small;
            }
            return (int) rest;
        }

        /** FOLD. */
        int fold() {
            int rest = restBy(FOLDED);
            return isNegative && rest > 0 ? FOLDED - rest : rest;
        }

        /** Is divided by small, without its sign; tells the rest. */
        int divideBy(int small) {
            long rest = 0;
            for (int i = size - 1; i >= 0 && small > 0; i--) {
                long whole = rest << STEP | digit[i];
                digit[i] = (int) (whole / small);
                rest = whole % small;
            }
            for (int i = size; i > 0 && digit[i - 1] == 0; i--) {
                size = i - 1;
            }
            isNegative = isNegative && size > 0;
            return (int) rest;
        }

        /** Becomes a + b, or a - b; it may be one of them. */
        void sum(Big a, Big b, boolean isMinus) {
            boolean isSame = b.size == 0 || a.isNegative == (b.isNegative != isMinus);
            boolean isBelow = a.isNegative;
            int used = a.size > b.size ? a.size : b.size;
            long carry = 0;
            for (int i = 0; i < used && i < digit.length; i++) {
                long x = i < a.size ? a.digit[i] : 0;
                long y = i < b.size ? b.digit[i] : 0;
                carry += isSame ? x + y : x - y;
                digit[i] = (int) (carry & MASK);
                carry >>= STEP;
            }
            if (carry > 0 && used < digit.length) {
                digit[used] = (int) carry;
                used++;
            }
            if (carry < 0) {
                // b outweighs a: what stands there is too small by a power of the radix
                isBelow = !isBelow;
                carry = 0;
                for (int i = 0; i < used && i < digit.length; i++) {
                    carry -= digit[i];
                    digit[i] = (int) (carry & MASK);
                    carry >>= STEP;
                }
            }
            size = used < digit.length ? used : digit.length;
            for (int i = size; i > 0 && digit[i - 1] == 0; i--) {
                size = i - 1;
            }
            isNegative = isBelow && size > 0;
        }

        /** Becomes a * b; it is neither of them. */
        void times(Big a, Big b) {
            int used = a.size + b.size < digit.length ? a.size + b.size : digit.length;
            for (int i = 0; i < used; i++) {
                digit[i] = 0;
            }
            for (int i = 0; i < a.size; i++) {
                long carry = 0;
                long factor = a.digit[i];
                for (int j = 0; j < b.size && i + j < used; j++) {
                    carry += factor * b.digit[j] + digit[i + j];
                    digit[i + j] = (int) (carry & MASK);
                    carry >>= STEP;
                }
                if (i + b.size < used) {
                    digit[i + b.size] = (int) carry;
                }
            }
            size = used;
            for (int i = used; i > 0 && digit[i - 1] == 0; i--) {
                size = i - 1;
            }
            isNegative = size > 0 && a.isNegative != b.isNegative;
        }

        /** Becomes the one of 0 to m - 1 that differs from it by a multiple of m. */
        void modulo(Big m) {
            divide(m, null);
            if (isNegative) {
                sum(this, m, false);
            }
        }

        /** Becomes what is left when m is taken off as often as it goes, towards 0; quotient, if not null, is how often. */
        void divide(Big m, Big quotient) {
            int n = m.size;
            if (n == 0) {
                return;
            }
            // the leading digits are read as if both were shifted till the highest bit of m is the highest of a digit
            int up = STEP - bitsOf(m.digit[n - 1]);
            int down = STEP - up;
            long top = ((long) m.digit[n - 1] << STEP | (n > 1 ? m.digit[n - 2] : 0)) << up
                    | (n > 2 ? m.digit[n - 3] : 0) >> down;
            long high = top >> STEP;
            long low = top & MASK;
            int told = 0;
            for (int j = high == 0 ? -1 : size - n; j >= 0; j--) {
                long above = j + n < size ? digit[j + n] : 0;
                long second = j + n > 1 ? digit[j + n - 2] : 0;
                long third = j + n > 2 ? digit[j + n - 3] : 0;
                long lead = (above << STEP | digit[j + n - 1]) << up | second >> down;
                long next = second << up & MASK | third >> down;
                long q = lead / high < MASK ? lead / high : MASK;
                long rest = lead - q * high;
                for (int k = 0; k < 2 && rest <= MASK && q * low > (rest << STEP | next); k++) {
                    q--;
                    rest += high;
                }
                long carry = 0;
                for (int i = 0; i < n; i++) {
                    carry += digit[j + i] - q * m.digit[i];
                    digit[j + i] = (int) (carry & MASK);
                    carry >>= STEP;
                }
                if (above + carry < 0) {
                    q--;
                    carry = 0;
                    for (int i = 0; i < n; i++) {
                        carry += digit[j + i] + m.digit[i];
                        digit[j + i] = (int) (carry & MASK);
                        carry >>= STEP;
                    }
                }
                if (quotient != null && j < quotient.digit.length) {
                    quotient.digit[j] = (int) q;
                    told = told == 0 && q > 0 ? j + 1 : told;
                }
            }
            if (quotient != null) {
                quotient.size = told;
                quotient.isNegative = told > 0 && isNegative != m.isNegative;
            }
            size = size < n ? size : n;
            for (int i = size; i > 0 && digit[i - 1] == 0; i--) {
                size = i - 1;
            }
            isNegative = isNegative && size > 0;
        }
    }

    /** NUMBERS in a row, made once and written over. */
    private static final class Row {
        private final Big[] numbers;
        private int size;

        Row(int room) {
            numbers = new Big[room < 1 ? 1 : room];
            for (int i = 0; i < numbers.length; i++) {
                numbers[i] = new Big(Big.STORED);
            }
        }

        Big at(int k) {
            return numbers[k >= 0 && k < numbers.length ? k : 0];
        }

        boolean isFull() {
            return size >= numbers.length;
        }

        void append(Big value) {
            if (size < numbers.length) {
                numbers[size].copy(value);
                size++;
            }
        }

        void appendValue(int value) {
            if (size < numbers.length) {
                numbers[size].setTo(value);
                size++;
            }
        }

        void copyRow(Row from) {
            size = from.size < numbers.length ? from.size : numbers.length;
            for (int i = 0; i < size && i < from.numbers.length; i++) {
                numbers[i].copy(from.numbers[i]);
            }
        }
    }

    /** A SHEET: spot 0 of the row is its NUMBER, and the size of the row is its END. */
    private static final class Sheet {
        private static final int NEVER = 99;

        private int kind;
        private final Row row = new Row(11);

        void open(int newKind, Big n) {
            kind = newKind;
            row.size = 0;
            row.append(n);
        }

        void openValue(int newKind, int n) {
            kind = newKind;
            row.size = 0;
            row.appendValue(n);
        }

        boolean isYes() {
            return kind >= SMALL;
        }

        /** The first SPOT that is a q. */
        int firstFactor() {
            switch (kind) {
                case CARMICHAEL:
                    return 1;
                case FULL:
                case PART:
                    return 2;
                case PLUS:
                    return 3;
                default:
                    return NEVER;
            }
        }

        String name() {
            switch (kind) {
                case DIVISOR:
                    return "divisor";
                case POWER:
                    return "power";
                case ROOT:
                    return "root";
                case LUCAS:
                    return "lucas";
                case SQUARES_NO:
                case SQUARES_YES:
                    return "squares";
                case THREE_NO:
                case THREE_YES:
                    return "three";
                case CARMICHAEL:
                    return "carmichael";
                case SMALL:
                    return "small";
                case FULL:
                    return "full";
                case PART:
                    return "part";
                default:
                    return "plus";
            }
        }
    }

    /** A PAPER, and what follows for it from how all PAPERS stand. */
    private static final class Paper {
        private static final int WITHDRAWN = 0;
        private static final int LOOSE = 1;
        private static final int TRUSTED = 2;

        private final Sheet sheet = new Sheet();
        private boolean isHeld;
        private boolean isTrusted;
        private int depth;
        /** A bit for each PAPER that is the FIRST of a NUMBER UNDER this one. */
        private final long[] firsts = new long[3];
        private int textLength;
        private int borneOut;

        void fill(Sheet from) {
            sheet.kind = from.kind;
            sheet.row.copyRow(from.row);
            isHeld = true;
            textLength = 0;
            borneOut = 0;
            clear(false);
        }

        void clear(boolean isTrustedNow) {
            isTrusted = isTrustedNow;
            depth = isTrustedNow ? 0 : NONE;
            for (int i = 0; i < firsts.length; i++) {
                firsts[i] = 0;
            }
        }

        /** Takes up that it HANGS on the NUMBER whose FIRST is the paper with that index. */
        void gather(int index, Paper first) {
            if (depth < first.depth + 1) {
                depth = first.depth + 1;
            }
            for (int i = 0; i < firsts.length; i++) {
                firsts[i] |= first.firsts[i];
            }
            int word = index / 64;
            if (word >= 0 && word < firsts.length) {
                firsts[word] |= 1L << (index % 64);
            }
        }

        boolean hasUnder(int index) {
            int word = index / 64;
            return index >= 0 && word < firsts.length && (firsts[word] >>> (index % 64) & 1) == 1;
        }

        int underSize() {
            return Long.bitCount(firsts[0]) + Long.bitCount(firsts[1]) + Long.bitCount(firsts[2]);
        }

        int standing() {
            return isTrusted ? TRUSTED : isHeld ? LOOSE : WITHDRAWN;
        }
    }

    /** All PAPERS: as they were taken, and in the order of their NUMBERS. */
    private static final class Archive {
        private static final int MOST = 150;
        private static final int HELD = 0;
        private static final int ANY = 1;
        private static final int YES = 2;
        private static final int NO = 3;
        private static final int FAR = 200;

        private final Paper[] papers = new Paper[MOST];
        private final int[] ranked = new int[MOST];
        private int size;
        private final Paper blank = new Paper();
        private final Big probe = new Big(Big.STORED);

        boolean isFull() {
            return size >= MOST;
        }

        Paper at(int index) {
            Paper found = index >= 0 && index < size && index < MOST ? papers[index] : null;
            return found == null ? blank : found;
        }

        /** The index of the PAPER that is at that place in the order of their NUMBERS. */
        int indexAt(int rank) {
            return rank >= 0 && rank < size && rank < MOST ? ranked[rank] : NONE;
        }

        Big numberAt(int rank) {
            return at(indexAt(rank)).sheet.row.at(0);
        }

        /** The smallest index of a PAPER of the NUMBER that is HELD and of that KIND, or TRUSTED (ANY, for YES, for NO). */
        int find(Big n, int what, int kind) {
            int low = 0;
            int high = size;
            for (int i = 0; i < 10 && low < high; i++) {
                int middle = (low + high) / 2;
                if (Big.order(at(ranked[middle]).sheet.row.at(0), n) < 0) {
                    low = middle + 1;
                } else {
                    high = middle;
                }
            }
            for (int rank = low; rank < size; rank++) {
                Paper paper = at(ranked[rank]);
                if (Big.order(paper.sheet.row.at(0), n) != 0) {
                    return NONE;
                }
                boolean isWanted = what == HELD
                        ? paper.isHeld && paper.sheet.kind == kind
                        : paper.isTrusted && (what == ANY || paper.sheet.isYes() == (what == YES));
                if (isWanted) {
                    return ranked[rank];
                }
            }
            return NONE;
        }

        int verdict(Big n) {
            return find(n, YES, 0) != NONE ? 1 : find(n, NO, 0) != NONE ? 0 : NONE;
        }

        int verdictOf(int n) {
            probe.setTo(n);
            return verdict(probe);
        }

        /** Takes a SHEET without a FAULT as a PAPER; tells its index, or that there is no room. */
        int add(Sheet sheet) {
            if (size >= MOST) {
                return NO_ROOM;
            }
            boolean isPlain = tally(Paper.LOOSE) == 0;
            if (papers[size] == null) {
                papers[size] = new Paper();
            }
            Paper paper = papers[size];
            paper.fill(sheet);
            int rank = size;
            for (; rank > 0 && Big.order(numberAt(rank - 1), sheet.row.at(0)) > 0; rank--) {
                ranked[rank] = ranked[rank - 1];
            }
            ranked[rank] = size;
            size++;
            if (isPlain) {
                // nothing waited for this PAPER, so no other one changes
                weigh(paper);
            } else {
                settle();
            }
            return size - 1;
        }

        /** Takes away the PAPERS from that index on. */
        void cutTo(int index) {
            int kept = 0;
            for (int rank = 0; rank < size; rank++) {
                if (ranked[rank] < index) {
                    ranked[kept] = ranked[rank];
                    kept++;
                }
            }
            size = kept;
            settle();
        }

        /** Finds out anew, from the smallest NUMBER on, which PAPERS are TRUSTED. */
        void settle() {
            for (int rank = 0; rank < size; rank++) {
                weigh(at(ranked[rank]));
            }
        }

        private void weigh(Paper paper) {
            Row row = paper.sheet.row;
            paper.clear(paper.isHeld);
            for (int spot = paper.sheet.firstFactor(); spot < row.size && paper.isTrusted; spot++) {
                int first = find(row.at(spot), YES, 0);
                if (first == NONE) {
                    paper.clear(false);
                } else {
                    paper.gather(first, at(first));
                }
            }
        }

        int tally(int standing) {
            int told = 0;
            for (int i = 0; i < size; i++) {
                if (at(i).standing() == standing) {
                    told++;
                }
            }
            return told;
        }

        /** Whether no NUMBER has a PAPER for YES and one for NO. */
        boolean isAgreed() {
            for (int rank = 1; rank < size; rank++) {
                boolean isOther = at(ranked[rank]).sheet.isYes() != at(ranked[rank - 1]).sheet.isYes();
                if (isOther && Big.order(numberAt(rank - 1), numberAt(rank)) == 0) {
                    return false;
                }
            }
            return true;
        }

        /** Whether each PAPER is TRUSTED just if it is HELD and hangs on smaller NUMBERS that ARE YES. */
        boolean isSettled() {
            for (int i = 0; i < size; i++) {
                Paper paper = at(i);
                Row row = paper.sheet.row;
                boolean isDue = paper.isHeld;
                for (int spot = paper.sheet.firstFactor(); spot < row.size && isDue; spot++) {
                    isDue = Big.order(row.at(spot), row.at(0)) < 0 && find(row.at(spot), YES, 0) != NONE;
                }
                if (isDue != paper.isTrusted) {
                    return false;
                }
            }
            return true;
        }

        /** Whether both are near, and each odd NUMBER from 3 on between them IS NO. */
        private boolean isProved(int low, int high) {
            if (high - low > FAR) {
                return false;
            }
            for (int n = low < 2 ? 3 : low + 1 | 1; n < high; n += 2) {
                probe.setTo(n);
                if (find(probe, NO, 0) == NONE) {
                    return false;
                }
            }
            return true;
        }

        int nearest(int value, boolean isAbove) {
            int best = NONE;
            for (int i = 0; i < size; i++) {
                Paper paper = at(i);
                int n = paper.sheet.row.at(0).toInt();
                boolean isThere = paper.isTrusted && paper.sheet.isYes() && (isAbove ? n > value : n < value);
                if (isThere && (best == NONE || n < best == isAbove)) {
                    best = n;
                }
            }
            boolean isShown = best != NONE && (isAbove ? isProved(value, best) : isProved(best, value));
            return isShown ? best : NONE;
        }

        /** Of the NUMBERS of these bounds: how many have a PAPER, ARE YES, ARE NO, are TWINS; or the widest proved gap. */
        int survey(int from, int to, int what) {
            int told = 0;
            int last = NONE;
            for (int rank = 0; rank < size; rank++) {
                Big number = numberAt(rank);
                int n = number.toInt();
                boolean isAgain = rank > 0 && Big.order(numberAt(rank - 1), number) == 0;
                if (n < from || n > to || isAgain) {
                    continue;
                }
                int verdict = what == 0 ? NONE : verdict(number);
                boolean isYes = verdict == 1;
                boolean isCounted = what == 0 || what == 1 && isYes || what == 2 && verdict == 0
                        || what == 3 && isYes && n <= to - 2 && verdictOf(n + 2) == 1;
                if (isCounted) {
                    told++;
                }
                if (what == 4 && isYes) {
                    if (last != NONE && n - last > told && isProved(last, n)) {
                        told = n - last;
                    }
                    last = n;
                }
            }
            return told;
        }
    }

    /** The last ENTRIES. */
    private static final class Journal {
        private static final int MOST = 30;
        private static final int TOOK = 0;
        private static final int WITHDREW = 1;
        private static final int RESTORED = 2;
        private static final int BEGAN = 3;
        private static final int GREW = 4;

        private final int[] deeds = new int[MOST];
        private final int[] befores = new int[MOST];
        private final int[] whiches = new int[MOST];
        private int size;

        /** Writes down what was done, how many PAPERS there were before, and with which PAPER or CHAIN. */
        void note(int deed, int before, int which) {
            if (size >= MOST) {
                for (int i = 1; i < MOST; i++) {
                    deeds[i - 1] = deeds[i];
                    befores[i - 1] = befores[i];
                    whiches[i - 1] = whiches[i];
                }
                size = MOST - 1;
            }
            deeds[size] = deed;
            befores[size] = before;
            whiches[size] = which;
            size++;
        }

        int deedOf(int entry) {
            return entry >= 0 && entry < MOST ? deeds[entry] : TOOK;
        }

        int beforeOf(int entry) {
            return entry >= 0 && entry < MOST ? befores[entry] : 0;
        }

        int whichOf(int entry) {
            return entry >= 0 && entry < MOST ? whiches[entry] : 0;
        }
    }

    /** Trial by small divisors. */
    private static final class Sieve {
        private static final int FURTHEST = 46000;
        private static final int MOST_FACTORS = 31;

        static boolean isSifted(int n) {
            for (int d = 2; d < FURTHEST && d * d <= n; d += d == 2 ? 1 : 2) {
                if (n % d == 0) {
                    return false;
                }
            }
            return n >= 2;
        }

        /** The least prime greater than after that divides x; 0 if there is none. */
        static int nextFactor(int x, int after) {
            int rest = x;
            for (int d = 2; d < FURTHEST && d * d <= rest; d += d == 2 ? 1 : 2) {
                if (rest % d == 0 && d > after) {
                    return d;
                }
                for (int i = 0; i < MOST_FACTORS && rest % d == 0; i++) {
                    rest /= d;
                }
            }
            return rest > 1 && rest > after ? rest : 0;
        }

        private static int without(int x, int factor) {
            int rest = x;
            for (int i = 0; i < MOST_FACTORS && factor > 1 && rest % factor == 0; i++) {
                rest /= factor;
            }
            return rest;
        }

        /** Of the FACTORS that the RULE of the KIND asks for, for n, the least that is greater than after; 0 if none is. */
        static int ruleFactor(int kind, int n, int after) {
            if (kind < CARMICHAEL || kind > PLUS || kind == SMALL) {
                return 0;
            }
            int whole = kind == CARMICHAEL ? n : kind == PLUS ? n + 1 : n - 1;
            int factor = nextFactor(whole, after);
            if (after > 0 || kind == CARMICHAEL || kind == FULL) {
                return factor;
            }
            // the least ones are left out as long as END is content without them
            int part = whole;
            for (int i = 0; i < MOST_FACTORS && factor > 0; i++) {
                part = without(part, factor);
                long side = kind == PART ? part + 1L : part - 1L;
                if (side * side <= n) {
                    return factor;
                }
                factor = nextFactor(whole, factor);
            }
            return factor;
        }
    }

    /** Reckons by a modulus; what it works with is its own and is kept from call to call. */
    private static final class Reckoner {
        private final Big one = new Big(Big.WIDE);
        private final Big r1 = new Big(Big.WIDE);
        private final Big r2 = new Big(Big.WIDE);
        private final Big r3 = new Big(Big.WIDE);
        private final Big r4 = new Big(Big.WIDE);
        private final Big r5 = new Big(Big.WIDE);
        private final Big r6 = new Big(Big.WIDE);
        private final Big r7 = new Big(Big.WIDE);
        private final Big less = new Big(Big.WIDE);
        private final Big odd = new Big(Big.WIDE);
        private final Big start = new Big(Big.WIDE);
        private final Big step = new Big(Big.WIDE);
        private final Big finding = new Big(Big.WIDE);

        Reckoner() {
            one.setTo(1);
        }

        /** Whether out could be made base^exponent: one that is far too long is not reckoned to its end. */
        boolean raise(Big out, int base, int exponent) {
            r1.setTo(1);
            r2.setTo(base);
            for (int i = 0; i < exponent && r1.bits() <= LONGEST + 10; i++) {
                r3.times(r1, r2);
                r1.copy(r3);
            }
            out.copy(r1);
            return r1.bits() <= LONGEST + 10;
        }

        void gcd(Big out, Big a, Big b) {
            Big x = r1;
            Big y = r2;
            x.copy(a);
            y.copy(b);
            for (int i = 0; i < 1000 && y.size > 0; i++) {
                x.divide(y, null);
                Big held = x;
                x = y;
                y = held;
            }
            out.copy(x);
            out.isNegative = false;
        }

        /** Whether a has an INVERSE by m (above 0), which out then is. */
        boolean inverseMod(Big out, Big a, Big m) {
            Big x = r1;
            Big y = r2;
            Big ofX = r3;
            Big ofY = r4;
            x.copy(m);
            y.copy(a);
            y.modulo(m);
            ofX.setTo(0);
            ofY.setTo(1);
            for (int i = 0; i < 1000 && y.size > 0; i++) {
                x.divide(y, r5);
                r6.times(r5, ofY);
                ofX.sum(ofX, r6, true);
                Big held = x;
                x = y;
                y = held;
                held = ofX;
                ofX = ofY;
                ofY = held;
            }
            if (!x.is(1)) {
                return false;
            }
            ofX.modulo(m);
            out.copy(ofX);
            return true;
        }

        /** Makes out the POWER of base to exponent, taken without its sign, by m (above 0). */
        void powMod(Big out, Big base, Big exponent, Big m) {
            Big now = r2;
            Big then = r3;
            r1.copy(base);
            r1.divide(m, null);
            if (r1.isNegative) {
                r1.sum(r1, m, false);
            }
            now.setTo(1);
            now.divide(m, null);
            for (int k = exponent.bits() - 1; k >= 0; k--) {
                then.times(now, now);
                then.divide(m, null);
                if (exponent.hasBit(k)) {
                    now.times(then, r1);
                    now.divide(m, null);
                } else {
                    Big held = now;
                    now = then;
                    then = held;
                }
            }
            out.copy(now);
        }

        /** Makes out U(k) MOD m of the LUCAS row of p and q, by doubling; k is not below 0, m above 0. */
        void lucasMod(Big out, int p, int q, Big k, Big m) {
            Big u = r1;
            Big after = r2;
            u.setTo(0);
            after.setTo(1);
            r6.setTo(p);
            r7.setTo(q);
            for (int i = k.bits() - 1; i >= 0; i--) {
                // U(2k) = U(k) * (2 * U(k + 1) - P * U(k)), U(2k + 1) = U(k + 1)^2 - Q * U(k)^2
                r3.times(r6, u);
                r4.sum(after, after, false);
                r4.sum(r4, r3, true);
                r3.times(u, r4);
                r3.divide(m, null);
                r5.times(u, u);
                r4.times(after, after);
                u.times(r7, r5);
                r4.sum(r4, u, true);
                r4.divide(m, null);
                if (k.hasBit(i)) {
                    after.times(r6, r4);
                    r5.times(r7, r3);
                    after.sum(after, r5, true);
                    after.divide(m, null);
                    u.copy(r4);
                } else {
                    u.copy(r3);
                    after.copy(r4);
                }
            }
            u.divide(m, null);
            if (u.isNegative) {
                u.sum(u, m, false);
            }
            out.copy(u);
        }

        /** Makes out the ROOT of a, which is not below 0. */
        void rootOf(Big out, Big a) {
            r1.setToPower((a.bits() + 1) / 2);
            for (int i = 0; i < 1000 && r1.size > 0; i++) {
                r2.copy(a);
                r2.divide(r1, r3);
                r3.sum(r3, r1, false);
                r3.divideBy(2);
                if (Big.order(r3, r1) >= 0) {
                    break;
                }
                r1.copy(r3);
            }
            out.copy(r1);
        }

        /** What the ROUND of base for n (FIT) says: 0 if it is PASSED, 1 POWER, 2 ROOT; finding is its FINDING then. */
        int roundOf(Big n, int base) {
            less.sum(n, one, true);
            int halves = less.halves();
            r1.setToPower(halves < 0 ? 0 : halves);
            step.copy(less);
            step.divide(r1, odd);
            start.setTo(base);
            start.divide(n, null);
            if (start.size == 0 || start.is(1) || Big.order(start, less) == 0) {
                return 0;
            }
            powMod(step, start, odd, n);
            if (step.is(1)) {
                return 0;
            }
            for (int i = 0; i < halves; i++) {
                if (Big.order(step, less) == 0) {
                    return 0;
                }
                finding.copy(step);
                step.times(finding, finding);
                step.divide(n, null);
                if (step.is(1)) {
                    return 2;
                }
            }
            finding.copy(start);
            return 1;
        }
    }

    /** Looks SHEETS over. */
    private static final class Checker {
        private static final int MOST_PAIR = 100;

        private final Reckoner reckoner = new Reckoner();
        private final Archive archive = new Archive();
        private final Big one = new Big(Big.WIDE);
        private final Big less = new Big(Big.WIDE);
        private final Big more = new Big(Big.WIDE);
        private final Big x = new Big(Big.WIDE);
        private final Big y = new Big(Big.WIDE);
        private final Big rest = new Big(Big.WIDE);

        Checker() {
            one.setTo(1);
        }

        /** FAULT. */
        int faultOf(Sheet sheet) {
            Big n = sheet.row.at(0);
            if (!opens(sheet.kind, n)) {
                return 0;
            }
            less.sum(n, one, true);
            more.sum(n, one, false);
            int factors = sheet.firstFactor();
            boolean isPair = sheet.kind == LUCAS || sheet.kind == PLUS;
            for (int spot = 1; spot < sheet.row.size; spot++) {
                boolean isSo = spot >= factors ? factorHolds(sheet, spot)
                        : spot == 1 ? headHolds(sheet) : spot == 2 && isPair && pairHolds(sheet);
                if (!isSo) {
                    return spot;
                }
            }
            return endHolds(sheet) ? NONE : sheet.row.size;
        }

        /** Whether n is what SPOT 0 of the KIND asks. */
        boolean opens(int kind, Big n) {
            switch (kind) {
                case DIVISOR:
                    return n.toInt() >= 4;
                case SQUARES_NO:
                case SQUARES_YES:
                    x.sum(n, one, false);
                    return n.toInt() >= 7 && x.halves() == x.bits() - 1 && x.halves() % 2 == 1;
                case THREE_NO:
                case THREE_YES:
                    x.sum(n, one, true);
                    int e = x.halves();
                    return n.toInt() >= 5 && e == x.bits() - 1 && (e & e - 1) == 0;
                case SMALL:
                    return n.toInt() >= 2 && n.toInt() <= 999;
                default:
                    return n.isFit();
            }
        }

        private static boolean isInside(Big value, Big end) {
            return value.toInt() >= 2 && Big.order(value, end) < 0;
        }

        /** Whether all is so that is told of SPOT 1, where that is no q. */
        private boolean headHolds(Sheet sheet) {
            Big n = sheet.row.at(0);
            Big told = sheet.row.at(1);
            switch (sheet.kind) {
                case DIVISOR:
                    x.copy(n);
                    x.divide(told, null);
                    return isInside(told, n) && x.sign() == 0;
                case POWER:
                case FULL:
                case PART:
                    if (!isInside(told, less)) {
                        return false;
                    }
                    reckoner.powMod(x, told, less, n);
                    return x.is(1) == (sheet.kind != POWER);
                case ROOT:
                    if (!isInside(told, less)) {
                        return false;
                    }
                    x.times(told, told);
                    x.divide(n, null);
                    return x.is(1);
                case LUCAS:
                case PLUS:
                    return told.toInt() >= 1 && told.toInt() <= MOST_PAIR;
                default:
                    return false;
            }
        }

        /** Whether all is so that is told of SPOT 2, where that is Q; SPOT 1 has been looked at. */
        private boolean pairHolds(Sheet sheet) {
            Big n = sheet.row.at(0);
            int p = sheet.row.at(1).toInt();
            int q = sheet.row.at(2).toInt();
            if (q == 0 || q < -MOST_PAIR || q > MOST_PAIR) {
                return false;
            }
            int d = p * p - 4 * q;
            if (sheet.kind == LUCAS) {
                y.copy(less);
                y.divideBy(2);
                x.setTo(d);
                reckoner.powMod(x, x, y, n);
                return Big.order(x, less) == 0;
            }
            x.setTo((long) q * d);
            reckoner.gcd(x, n, x);
            if (!x.is(1)) {
                return false;
            }
            reckoner.lucasMod(x, p, q, more, n);
            return x.sign() == 0;
        }

        /** Whether all is so that is told of a q. */
        private boolean factorHolds(Sheet sheet, int spot) {
            Big n = sheet.row.at(0);
            Big q = sheet.row.at(spot);
            if (spot > sheet.firstFactor() && Big.order(sheet.row.at(spot - 1), q) >= 0
                    || archive.find(q, Archive.YES, 0) == NONE) {
                return false;
            }
            x.copy(sheet.kind == CARMICHAEL ? n : sheet.kind == PLUS ? more : less);
            x.divide(q, y);
            if (x.sign() != 0) {
                return false;
            }
            switch (sheet.kind) {
                case CARMICHAEL:
                    y.sum(q, one, true);
                    x.copy(less);
                    x.divide(y, null);
                    return x.sign() == 0;
                case FULL:
                    reckoner.powMod(x, sheet.row.at(1), y, n);
                    return !x.is(1);
                case PART:
                    reckoner.powMod(x, sheet.row.at(1), y, n);
                    x.sum(x, one, true);
                    break;
                default:
                    reckoner.lucasMod(x, sheet.row.at(1).toInt(), sheet.row.at(2).toInt(), y, n);
                    break;
            }
            reckoner.gcd(x, n, x);
            return x.is(1);
        }

        /** Whether all is so that is told of the END. */
        private boolean endHolds(Sheet sheet) {
            Big n = sheet.row.at(0);
            int size = sheet.row.size;
            switch (sheet.kind) {
                case DIVISOR:
                case POWER:
                case ROOT:
                    return size == 2;
                case LUCAS:
                    if (size != 3) {
                        return false;
                    }
                    reckoner.lucasMod(x, sheet.row.at(1).toInt(), sheet.row.at(2).toInt(), more, n);
                    return x.sign() != 0;
                case SQUARES_NO:
                case SQUARES_YES:
                    return isLastSquareZero(n) == sheet.isYes();
                case THREE_NO:
                case THREE_YES:
                    y.copy(less);
                    y.divideBy(2);
                    x.setTo(3);
                    reckoner.powMod(x, x, y, n);
                    return (Big.order(x, less) == 0) == sheet.isYes();
                case CARMICHAEL:
                    return size >= 3 && isProduct(sheet);
                case SMALL:
                    return Sieve.isSifted(n.toInt());
                default:
                    return isEnough(sheet);
            }
        }

        private boolean isLastSquareZero(Big n) {
            int steps = n.bits() - 2;
            rest.setTo(2);
            x.setTo(4);
            for (int i = 0; i < steps; i++) {
                y.times(x, x);
                y.sum(y, rest, true);
                y.divide(n, null);
                x.copy(y);
            }
            return x.sign() == 0;
        }

        /** Whether the NUMBER is the product of its ROW; each of the ROW divides it. */
        private boolean isProduct(Sheet sheet) {
            x.setTo(1);
            for (int spot = 1; spot < sheet.row.size && x.bits() <= LONGEST + 10; spot++) {
                y.times(x, sheet.row.at(spot));
                x.copy(y);
            }
            return Big.order(x, sheet.row.at(0)) == 0;
        }

        /** Whether the q of a SHEET of KIND 8, 9 or 10 reach far enough. */
        private boolean isEnough(Sheet sheet) {
            Big whole = sheet.kind == PLUS ? more : less;
            rest.copy(whole);
            for (int spot = sheet.firstFactor(); spot < sheet.row.size; spot++) {
                x.setTo(0);
                for (int i = 0; i < 200 && x.sign() == 0; i++) {
                    x.copy(rest);
                    x.divide(sheet.row.at(spot), y);
                    rest.copy(x.sign() == 0 ? y : rest);
                }
            }
            if (sheet.kind == FULL) {
                return rest.is(1);
            }
            x.copy(whole);
            x.divide(rest, y);
            y.sum(y, one, sheet.kind == PLUS);
            x.copy(y);
            rest.times(x, y);
            return Big.order(rest, sheet.row.at(0)) > 0;
        }
    }

    /** Writes SHEETS by RULE, and DECIDES. */
    private static final class Clerk {
        private static final int MOST_PENDING = 24;
        private static final int UNSEEN = -1;
        private static final int LAST_SMALL = 999;

        private final Checker checker = new Checker();
        private final Archive archive = checker.archive;
        private final Reckoner reckoner = checker.reckoner;
        private final Sheet draft = new Sheet();
        private final Big number = new Big(Big.WIDE);
        private final Big twice = new Big(Big.WIDE);
        private final Big side = new Big(Big.WIDE);
        private final int[] pending = new int[MOST_PENDING];
        private final int[] coming = new int[MOST_PENDING];

        /** Writes the FINDING of the last ROUND as a SHEET. */
        void writeFinding(int kind, Big n) {
            draft.open(kind, n);
            draft.row.append(reckoner.finding);
        }

        /** DECIDES; tells the index of the PAPER, or that there is no room. */
        int decideOne(int asked) {
            int told = NONE;
            int level = 0;
            pending[0] = asked;
            coming[0] = UNSEEN;
            for (int i = 0; i < 100000 && level >= 0 && level < MOST_PENDING; i++) {
                int n = pending[level];
                int factor = coming[level];
                if (factor > 0) {
                    // n waits here till the FACTORS of n - 1, rising, are DECIDED
                    coming[level] = Sieve.ruleFactor(FULL, n, factor);
                    level++;
                    if (level < MOST_PENDING) {
                        pending[level] = factor;
                        coming[level] = UNSEEN;
                    }
                    continue;
                }
                if (factor == UNSEEN) {
                    told = decideAtOnce(n);
                    coming[level] = told == NONE ? Sieve.ruleFactor(FULL, n, 0) : 0;
                } else {
                    number.setTo(n);
                    told = archive.find(number, Archive.HELD, FULL);
                    if (told == NONE) {
                        if (!writeUnit(FULL, n)) {
                            return NONE;
                        }
                        told = WRITTEN;
                    }
                }
                if (told == WRITTEN) {
                    told = archive.add(draft);
                }
                if (told == NO_ROOM) {
                    return NO_ROOM;
                }
                level -= told == NONE ? 0 : 1;
            }
            return told;
        }

        /** A TRUSTED PAPER of n, or WRITTEN if the draft tells what n is; NONE if FACTORS are DECIDED before. */
        private int decideAtOnce(int n) {
            number.setTo(n);
            int trusted = archive.find(number, Archive.ANY, 0);
            if (trusted != NONE) {
                return trusted;
            }
            if (n <= LAST_SMALL && Sieve.isSifted(n)) {
                draft.open(SMALL, number);
                return WRITTEN;
            }
            if (n <= LAST_SMALL || n % 2 == 0) {
                draft.open(DIVISOR, number);
                draft.row.appendValue(Sieve.nextFactor(n, 1));
                return WRITTEN;
            }
            for (int base = 2; base <= 3; base++) {
                int says = reckoner.roundOf(number, base);
                if (says != 0) {
                    writeFinding(says == 1 ? POWER : ROOT, number);
                    return WRITTEN;
                }
            }
            return NONE;
        }

        /** SEEKS when there is no HELD PAPER and all FACTORS are DECIDED: the index of the new PAPER, NONE, or no room. */
        int seekNew(int kind, Big n) {
            boolean isFound;
            draft.open(kind, n);
            switch (kind) {
                case DIVISOR:
                    draft.row.appendValue(Sieve.nextFactor(n.toInt(), 1));
                    isFound = checker.faultOf(draft) == NONE;
                    break;
                case POWER:
                    isFound = writePower();
                    break;
                case ROOT:
                    isFound = writeRoot(n);
                    break;
                case LUCAS:
                    isFound = writePair(3, 3);
                    break;
                case CARMICHAEL:
                    writeFactors(kind, n.toInt());
                    isFound = checker.faultOf(draft) == NONE;
                    break;
                case FULL:
                case PART:
                    isFound = writeUnit(kind, n.toInt());
                    break;
                case PLUS:
                    isFound = writePair(6, 6);
                    break;
                default:
                    isFound = checker.faultOf(draft) == NONE;
                    break;
            }
            return isFound ? archive.add(draft) : NONE;
        }

        private boolean writePower() {
            draft.row.appendValue(2);
            for (int a = 2; a <= 40; a++) {
                // a power of a product is the product of the powers: the least a is a prime
                draft.row.at(1).setTo(a);
                if (Sieve.isSifted(a) && checker.faultOf(draft) == NONE) {
                    return true;
                }
            }
            return false;
        }

        private boolean writeRoot(Big n) {
            for (int base = 2; base <= 40; base++) {
                if (reckoner.roundOf(n, base) == 2) {
                    writeFinding(ROOT, n);
                    return true;
                }
            }
            return false;
        }

        /** Writes P and Q, and for KIND 10 the FACTORS, into the draft; whether some pair has no FAULT. */
        private boolean writePair(int mostP, int mostQ) {
            int n = draft.row.at(0).toInt();
            draft.row.appendValue(1);
            draft.row.appendValue(1);
            if (draft.kind == PLUS) {
                writeFactors(PLUS, n);
            }
            for (int p = 1; p <= mostP; p++) {
                for (int q = -mostQ; q <= mostQ; q++) {
                    draft.row.at(1).setTo(p);
                    draft.row.at(2).setTo(q);
                    if (checker.faultOf(draft) == NONE) {
                        return true;
                    }
                }
            }
            return false;
        }

        /** Writes the SHEET of KIND 8 or 9 for n into the draft; whether some a has no FAULT. */
        private boolean writeUnit(int kind, int n) {
            draft.openValue(kind, n);
            draft.row.appendValue(2);
            writeFactors(kind, n);
            for (int a = 2; a <= 100; a++) {
                draft.row.at(1).setTo(a);
                if (checker.faultOf(draft) == NONE) {
                    return true;
                }
            }
            return false;
        }

        /** Writes the FACTORS that the RULE of the KIND asks for at the end of the draft. */
        private void writeFactors(int kind, int n) {
            int factor = Sieve.ruleFactor(kind, n, 0);
            for (int i = 0; i < Sieve.MOST_FACTORS && factor > 0; i++) {
                draft.row.appendValue(factor);
                factor = Sieve.ruleFactor(kind, n, factor);
            }
        }

        /** The step by which a CHAIN grows from p, with the SHEET in the draft; NONE if there is none. */
        int growStep(Big p, boolean isFast) {
            twice.sum(p, p, false);
            side.setTo(0);
            if (isFast) {
                side.copy(p);
                side.divideBy(4);
            }
            number.times(twice, side);
            side.setTo(1);
            number.sum(number, side, false);
            for (int k = 1; k <= 60; k++) {
                number.sum(number, twice, false);
                if (number.length() > LONGEST) {
                    return NONE;
                }
                // a number with a small divisor is no prime, so its SHEET has a FAULT
                if (!hasSmallDivisor(number)) {
                    draft.open(PART, number);
                    draft.row.appendValue(2);
                    draft.row.append(p);
                    if (checker.faultOf(draft) == NONE) {
                        return k;
                    }
                }
            }
            return NONE;
        }

        private static boolean hasSmallDivisor(Big n) {
            for (int d = 3; d < 50; d += 2) {
                if (n.restBy(d) == 0 && !n.is(d)) {
                    return true;
                }
            }
            return false;
        }
    }

    /** Writes texts. */
    private static final class Scribe {
        private final StringBuilder out = new StringBuilder();
        private final Big rest = new Big(Big.STORED);

        String textOf(Big n, int radix) {
            out.setLength(0);
            append(n, radix);
            return out.toString();
        }

        /** TEXT. */
        String textOfSheet(Sheet sheet) {
            out.setLength(0);
            append(sheet.row.at(0), 10);
            out.append(sheet.isYes() ? " yes " : " no ");
            out.append(sheet.name());
            for (int spot = 1; spot < sheet.row.size; spot++) {
                out.append(' ');
                append(sheet.row.at(spot), 10);
            }
            return out.toString();
        }

        /** The length of TEXT, without the text. */
        int lengthOf(Sheet sheet) {
            int length = (sheet.isYes() ? 5 : 4) + sheet.name().length() + sheet.row.size - 1;
            for (int spot = 0; spot < sheet.row.size; spot++) {
                length += digitsOf(sheet.row.at(spot));
            }
            return length;
        }

        private int digitsOf(Big n) {
            int digits = n.sign() < 0 ? 1 : 0;
            rest.copy(n);
            for (int i = 0; i < 300 && (i == 0 || rest.sign() != 0); i++) {
                rest.divideBy(10);
                digits++;
            }
            return digits;
        }

        /** The NUMBERS UNDER a PAPER. */
        String textOfUnder(Archive archive, Paper paper) {
            out.setLength(0);
            for (int rank = 0; rank < archive.size; rank++) {
                if (paper.hasUnder(archive.indexAt(rank))) {
                    if (out.length() > 0) {
                        out.append(' ');
                    }
                    append(archive.numberAt(rank), 10);
                }
            }
            return out.toString();
        }

        private void append(Big n, int radix) {
            if (n.sign() < 0) {
                out.append('-');
            }
            int first = out.length();
            rest.copy(n);
            for (int i = 0; i < 300 && (i == 0 || rest.sign() != 0); i++) {
                int digit = rest.divideBy(radix);
                out.append((char) (digit < 10 ? '0' + digit : 'a' + digit - 10));
            }
            // the digits came lowest first
            int last = out.length() - 1;
            for (int low = first; low < last; low++) {
                char held = out.charAt(low);
                out.setCharAt(low, out.charAt(last));
                out.setCharAt(last, held);
                last--;
            }
        }
    }
}
