import java.lang.management.ManagementFactory;

/** One run's calls make few objects: what the dearest calls take of the room, 512 times each. */
public final class RoomTest {
    private interface Call {
        Object answer(int i);
    }

    /** 600,000 objects of 16 bytes at the least; the runs here stay far below that. */
    private static final long MOST = 6_000_000;
    private static final int CALLS = 512;
    private static int wrong;

    private static long taken() {
        return ((com.sun.management.ThreadMXBean) ManagementFactory.getThreadMXBean())
            .getThreadAllocatedBytes(Thread.currentThread().getId());
    }

    private static void within(String name, Call call) {
        long before = taken();
        for (int i = 0; i < CALLS; i++) {
            call.answer(i);
        }
        long bytes = taken() - before;
        if (bytes > MOST) {
            wrong++;
            System.out.println(name + " takes " + bytes + " bytes in " + CALLS + " calls");
        }
    }

    public static void main(String[] args) {
        within("new Witnesshall()", i -> new Witnesshall());
        Witnesshall x = new Witnesshall();
        within("next() and undo()", i -> x.next(492113) + x.undo());
        within("decide() and undo()", i -> x.decide(999983) + x.undo());
        Witnesshall full = PaperPromisesTest.filled(150);
        full.make(1, 2, 127, -1);
        within("digest()", i -> full.digest());
        within("isSound()", i -> full.isSound());
        within("seek() of KIND 1", i -> full.seek(1, 1));
        within("seek() of KIND 2", i -> full.seek(2, 1));
        within("desk()", i -> full.desk(1, 2));
        within("passer()", i -> full.passer(900000));
        within("witnesses()", i -> full.witnesses(255));
        within("span()", i -> full.span(0, 1000000, 4));
        Witnesshall chain = new Witnesshall();
        chain.decide(999983);
        chain.put(0, 999983);
        chain.begin(0);
        while (chain.ofChain(0, 0) < 8) {
            chain.grow(0, false);
        }
        int last = chain.count(0) - 1;
        within("under()", i -> chain.under(last));
        within("paper()", i -> chain.paper(last));
        within("damaged()", i -> chain.damaged(last, 1, 1));
        System.out.println(wrong == 0 ? "every call keeps within the room" : wrong + " calls take too much");
        if (wrong > 0) {
            System.exit(1);
        }
    }
}
