import java.lang.reflect.Modifier;
import java.util.ArrayList;
import java.util.List;

/** The last lines of the description: what is said of all exceptions. */
final class ThrowSentences extends Sentences {
    private interface Call {
        Object on(Witnesshall x);
    }

    ThrowSentences(Document document, String only) {
        super(document, only);
    }

    @Override
    void all() {
        String s = "part 7";
        sentence(s, "A method that throws an exception changes nothing.", this::changesNothing);
        sentence(s, "If several exceptions apply, the one that is named first is thrown.", this::firstNamed);
        sentence(s, "The constructor and the methods follow, a promise each: the signature, then what it does.", this::face);
    }

    // ---- nothing is changed: a second office, where the call was not made, goes on the same way

    /** An office with a bit of all: what is put, a sheet, papers of each standing, bases, a chain of 8, entries. */
    private static Witnesshall rich() {
        Witnesshall x = begun(7);
        while (x.ofChain(0, 0) < 8) {
            x.grow(0, false);
        }
        x.decide(999983);
        x.decide(15);
        x.withdraw(x.decide(79));
        for (int base : new int[] {2, 3, 5, 7, 11, 13}) {
            x.base(base);
        }
        for (int k = 1; k < 5; k++) {
            x.begin(0);
        }
        x.knock();
        lay(x, 1, two(130).subtract(ONE));
        lay(x, 2, two(130).negate());
        x.put(3, 9);
        x.put(4, -1);
        x.put(5, 1000000);
        x.sheet(8, 0);
        for (int i = 1; i <= 10; i++) {
            x.writeValue(i);
        }
        return x;
    }

    private static List<Call> deskCalls() {
        List<Call> calls = new ArrayList<>();
        calls.add(x -> x.put(10, 1));
        calls.add(x -> x.make(10, 2, 1, 0));
        calls.add(x -> x.make(3, 1001, 1, 0));
        calls.add(x -> x.make(3, 1000, 129, 0));
        calls.add(x -> x.make(3, 4, 65, 0));
        calls.add(x -> x.work(10, 0, 1, 1));
        calls.add(x -> x.work(3, 7, 1, 1));
        calls.add(x -> x.work(3, 0, 1, 1));
        calls.add(x -> x.work(3, 2, 1, 2));
        calls.add(x -> x.work(2, 3, 2, 4));
        calls.add(x -> x.work(2, 6, 2, 6));
        calls.add(x -> x.root(3, 10));
        calls.add(x -> x.power(3, 3, 3, 10));
        calls.add(x -> x.power(3, 6, 6, 3));
        calls.add(x -> x.inverse(3, 3, -1));
        calls.add(x -> x.shift(3, 10, 1));
        calls.add(x -> x.shift(3, 3, 141));
        calls.add(x -> x.shift(3, 3, 127));
        calls.add(x -> x.lucas(3, 1, 1, 10, 3));
        calls.add(x -> x.lucas(3, 101, 1, 3, 3));
        calls.add(x -> x.lucas(3, 1, 1, 4, 3));
        calls.add(x -> x.fetch(3, 150, 0));
        calls.add(x -> x.fetch(3, 0, 1));
        calls.add(x -> x.take(3, 0, 8));
        calls.add(x -> x.take(3, 5, 0));
        calls.add(x -> x.desk(10, 10));
        calls.add(x -> x.desk(3, 37));
        calls.add(x -> x.number(10, 0));
        calls.add(x -> x.number(3, 5));
        calls.add(x -> x.bit(10, 0));
        calls.add(x -> x.bit(3, 141));
        calls.add(x -> x.compare(3, 10));
        return calls;
    }

    private static List<Call> paperCalls() {
        List<Call> calls = new ArrayList<>();
        calls.add(x -> x.sheet(8, 10));
        calls.add(x -> x.sheet(13, 3));
        calls.add(x -> x.write(10));
        calls.add(x -> x.write(3));
        calls.add(x -> x.writeValue(3));
        calls.add(x -> x.seek(8, 10));
        calls.add(x -> x.seek(13, 3));
        calls.add(x -> x.seek(8, 5));
        calls.add(x -> x.decide(1));
        calls.add(x -> x.decide(1000000));
        calls.add(x -> x.next(0));
        calls.add(x -> x.next(999901));
        calls.add(x -> x.accuse(10, 2));
        calls.add(x -> x.accuse(3, 1));
        calls.add(x -> x.accuse(5, 2));
        calls.add(x -> x.withdraw(150));
        calls.add(x -> x.withdraw(9));
        calls.add(x -> x.restore(150));
        calls.add(x -> x.restore(0));
        calls.add(x -> x.base(1));
        calls.add(x -> x.base(17));
        calls.add(x -> x.base(2));
        calls.add(x -> x.drop(6));
        calls.add(x -> x.begin(10));
        calls.add(x -> x.begin(0));
        calls.add(x -> x.begin(3));
        calls.add(x -> x.grow(5, false));
        calls.add(x -> x.grow(0, false));
        calls.add(x -> x.round(10, 2));
        calls.add(x -> x.round(3, 1));
        calls.add(x -> x.round(5, 2));
        calls.add(x -> x.passes(10));
        calls.add(x -> x.passes(5));
        calls.add(x -> x.passer(4));
        calls.add(x -> x.passing(5, 61));
        calls.add(x -> x.witnesses(4));
        calls.add(x -> x.witnesses(6));
        calls.add(x -> x.sifted(1));
        calls.add(x -> x.paper(150));
        calls.add(x -> x.ofPaper(150, 0));
        calls.add(x -> x.ofPaper(0, 7));
        calls.add(x -> x.damaged(0, 1, 0));
        calls.add(x -> x.damaged(0, 0, 4));
        calls.add(x -> x.hangs(0, 10));
        calls.add(x -> x.under(150));
        calls.add(x -> x.near(-1, true));
        calls.add(x -> x.span(3, 2, 0));
        calls.add(x -> x.link(0, 8));
        calls.add(x -> x.ofChain(5, 0));
        calls.add(x -> x.ofChain(0, 4));
        calls.add(x -> x.count(10));
        return calls;
    }

    /** Calls on an office without room, without a sheet and with all that is decided up to 151. */
    private static List<Call> callsWithoutRoom() {
        List<Call> calls = new ArrayList<>();
        calls.add(x -> x.strike());
        calls.add(x -> x.file());
        calls.add(x -> x.fault());
        calls.add(x -> x.write(0));
        calls.add(x -> x.writeValue(0));
        calls.add(x -> x.decide(999983));
        calls.add(x -> x.decide(1571));
        calls.add(x -> x.next(151));
        calls.add(x -> x.next(900001));
        calls.add(x -> x.seek(6, 1));
        calls.add(x -> x.seek(8, 2));
        calls.add(x -> x.seek(9, 2));
        calls.add(x -> x.seek(10, 2));
        return calls;
    }

    /** Where one paper is left to take, each call above takes it on the way, and leaves it again. */
    private static Witnesshall nearlyFull(int papers) {
        Witnesshall x = filled(papers);
        x.put(0, 7);
        x.begin(0);
        x.put(1, 907 * 911);
        x.put(2, 999983);
        x.put(3, 341);
        return x;
    }

    private void changesNothing() {
        throwAll(rich(), rich(), deskCalls());
        throwAll(rich(), rich(), paperCalls());
        throwAll(nearlyFull(149), nearlyFull(149), callsWithoutRoom());
        List<Call> calls = callsWithoutRoom();
        calls.add(x -> x.accuse(3, 3));
        calls.add(x -> x.grow(0, false));
        throwAll(nearlyFull(150), nearlyFull(150), calls);
        throwAll(withHeld(), withHeld(), List.of(x -> x.file(), x -> x.restore(0), x -> x.write(10)));
        Witnesshall none = office();
        noState(none, () -> none.undo());
        is(isTwin(none, office()), true);
    }

    /** A sheet without a FAULT, of a number that has a paper of its kind. */
    private static Witnesshall withHeld() {
        Witnesshall x = decided(15);
        faultOf(x, 0, 15, 5);
        return x;
    }

    private static boolean isTwin(Witnesshall x, Witnesshall twin) {
        return whole(x).equals(whole(twin));
    }

    private static boolean isThrown(Call call, Witnesshall x) {
        try {
            call.on(x);
            return false;
        } catch (IndexOutOfBoundsException | IllegalArgumentException | IllegalStateException e) {
            return true;
        }
    }

    private void throwAll(Witnesshall x, Witnesshall twin, List<Call> calls) {
        for (int i = 0; i < calls.size(); i++) {
            is(isThrown(calls.get(i), x), true);
            is(isTwin(x, twin), true);
        }
        is(x.decide(4), twin.decide(4));
        while (twin.count(7) > 0) {
            is(x.undo(), twin.undo());
            is(isTwin(x, twin), true);
        }
        noState(x, () -> x.undo());
        is(x.decide(1009), twin.decide(1009));
        is(isTwin(x, twin), true);
    }

    // ---- the one that is named first

    private void firstNamed() {
        deskOrder(rich());
        paperOrder(rich());
        roomOrder(nearlyFull(150));
        askOrder(rich());
    }

    private void deskOrder(Witnesshall x) {
        noIndex(x, () -> x.make(10, 1001, 129, 0));
        noIndex(x, () -> x.make(10, 1000, 129, 0));
        noArgument(x, () -> x.make(3, 1001, 129, 0));
        noIndex(x, () -> x.work(10, 7, 1, 1));
        noIndex(x, () -> x.work(3, 7, 10, 1));
        noIndex(x, () -> x.work(3, 7, 1, 10));
        noIndex(x, () -> x.work(10, 0, 1, 1));
        noArgument(x, () -> x.work(3, 7, 1, 1));
        noIndex(x, () -> x.power(10, 6, 6, 3));
        noIndex(x, () -> x.power(3, 6, 6, 10));
        noIndex(x, () -> x.shift(10, 3, 141));
        noIndex(x, () -> x.shift(3, 10, 141));
        noIndex(x, () -> x.shift(10, 3, 140));
        noArgument(x, () -> x.shift(3, 3, 141));
        noIndex(x, () -> x.lucas(10, 0, 0, 4, 3));
        noIndex(x, () -> x.lucas(3, 0, 0, 10, 3));
        noIndex(x, () -> x.lucas(3, 0, 0, 4, 10));
        noIndex(x, () -> x.lucas(10, 1, 1, 4, 3));
        noArgument(x, () -> x.lucas(3, 0, 1, 4, 3));
        noArgument(x, () -> x.lucas(3, 1, 0, 4, 3));
        noIndex(x, () -> x.desk(10, 1));
        noIndex(x, () -> x.number(10, 5));
        noIndex(x, () -> x.bit(10, 141));
    }

    private void paperOrder(Witnesshall x) {
        noIndex(x, () -> x.sheet(13, 10));
        noIndex(x, () -> x.write(10));
        noIndex(x, () -> x.seek(13, 10));
        noArgument(x, () -> x.seek(13, 5));
        noIndex(x, () -> x.seek(8, 10));
        noIndex(x, () -> x.accuse(10, 1));
        noIndex(x, () -> x.accuse(10, 2));
        noArgument(x, () -> x.accuse(5, 1));
        noArgument(x, () -> x.base(1));
        noArgument(x, () -> x.base(1001));
        noIndex(x, () -> x.begin(10));
        noIndex(x, () -> x.grow(5, false));
        x.undo();
        noIndex(x, () -> x.withdraw(x.count(0)));
        noIndex(x, () -> x.restore(x.count(0)));
        Witnesshall none = office();
        noIndex(none, () -> none.write(10));
        noIndex(none, () -> none.begin(-1));
        noIndex(none, () -> none.grow(0, false));
    }

    private void roomOrder(Witnesshall x) {
        noIndex(x, () -> x.seek(13, 10));
        noIndex(x, () -> x.seek(8, 10));
        noArgument(x, () -> x.seek(13, 2));
        noArgument(x, () -> x.decide(1));
        noArgument(x, () -> x.decide(1000000));
        noArgument(x, () -> x.next(0));
        noArgument(x, () -> x.next(999901));
        noIndex(x, () -> x.accuse(10, 1001));
        noIndex(x, () -> x.accuse(10, 3));
        noArgument(x, () -> x.accuse(3, 1001));
        noIndex(x, () -> x.grow(1, false));
    }

    private void askOrder(Witnesshall x) {
        noIndex(x, () -> x.round(10, 1));
        noIndex(x, () -> x.round(-1, 2));
        noArgument(x, () -> x.round(5, 1));
        noArgument(x, () -> x.round(5, 1001));
        noIndex(x, () -> x.passes(10));
        noArgument(x, () -> x.witnesses(4));
        noArgument(x, () -> x.witnesses(256));
        noIndex(x, () -> x.ofPaper(150, 7));
        noIndex(x, () -> x.damaged(150, 0, 4));
        noIndex(x, () -> x.damaged(0, 1, 4));
        noIndex(x, () -> x.ofChain(5, 4));
    }

    private void face() {
        is(Modifier.isFinal(Witnesshall.class.getModifiers()) && Modifier.isPublic(Witnesshall.class.getModifiers()), true);
        is(Witnesshall.class.getConstructors().length, 1);
        int methods = 0;
        for (java.lang.reflect.Method method : Witnesshall.class.getDeclaredMethods()) {
            methods += Modifier.isPublic(method.getModifiers()) ? 1 : 0;
        }
        is(methods, 51);
        is(Witnesshall.class.getFields().length, 0);
    }
}
