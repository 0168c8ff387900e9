import java.lang.management.ManagementFactory;
import java.util.Random;

/**
 * What the dearest runs of 512 calls make in all, with a new object for each: one run has room for
 * 7.3 million fields and elements. Here bytes are counted, which are 4 or fewer for each of them,
 * the heads of objects aside. And no call throws what is not promised, also long after call 512.
 */
public final class RoomTest {
    private static final long MOST_BYTES = 4 * 7300000L;

    private RoomTest() {
    }

    private static long allocated() {
        return ((com.sun.management.ThreadMXBean) ManagementFactory.getThreadMXBean())
            .getThreadAllocatedBytes(Thread.currentThread().getId());
    }

    private static void fits(String name, Runnable run) {
        run.run();
        long before = allocated();
        run.run();
        long bytes = allocated() - before;
        Check.holds(name + " makes " + bytes + " bytes", bytes < MOST_BYTES);
    }

    private static String full(int delay, String more) {
        StringBuilder text = new StringBuilder("players8;need1;patience200;");
        for (int a = 0; a < 8; a++) {
            for (int b = a + 1; b < 8; b++) {
                text.append("link").append(a).append(" ").append(b).append(" ");
                text.append(delay).append(" ").append(delay).append(";");
            }
        }
        return text.append(more).toString();
    }

    private static void manyProposals() {
        OneBeat x = Check.with(full(9, ""));
        for (int i = 0; i < 480; i++) {
            x.propose(i % 100);
        }
        Check.same("on their way", x.state(3), 480 * 14);
        x.foretold(0);
        x.safest();
        Check.same("changes", x.pass(50), 8);
        Check.same("all handled", x.state(3), 0);
        Check.same("sent", x.state(4), 480 * 21);
        x.undo();
        Check.same("back", x.state(3), 480 * 14);
    }

    private static void proposalsAndTicks() {
        OneBeat x = Check.with(full(9, ""));
        for (int i = 0; i < 245; i++) {
            x.propose(i % 100);
            x.pass(1);
        }
        x.checksum();
    }

    private static void safests() {
        OneBeat x = Check.with(full(1, "clock1-999-50;"));
        for (int i = 0; i < 480; i++) {
            x.safest();
        }
    }

    private static void loads() {
        OneBeat x = new OneBeat();
        for (int i = 0; i < 128; i++) {
            Check.load(x, "players 8;margin 1+1+1+1+1+1+1+1+1+1+1+1+1+1+1+1+1+1+1+1+1;");
        }
    }

    private static void objects() {
        for (int i = 0; i < 256; i++) {
            new OneBeat().pass(50);
        }
    }

    /** What is answered is free long after call 512, but only what the document names may be thrown. */
    private static void ends(Runnable call) {
        Class<?> thrown = null;
        try {
            call.run();
        } catch (RuntimeException e) {
            thrown = e.getClass();
        }
        Check.holds("long after call 512 " + thrown + " was thrown", thrown == null || thrown == Check.INDEX
            || thrown == Check.ARGUMENT || thrown == Check.STATE || thrown == Check.ELEMENT);
    }

    private static void longAfter() {
        Random random = new Random(5);
        OneBeat x = Check.with(full(3, "margin 9999*song;"));
        for (int i = 0; i < 30000; i++) {
            int what = i % 5;
            ends(() -> x.propose(random.nextInt(100)));
            if (i % 1000 == 0) {
                ends(x::checksum);
                ends(() -> x.foretold(what));
                ends(x::safest);
                ends(x::undo);
            }
        }
        for (int i = 0; i < 2000; i++) {
            ends(() -> x.pass(50));
            ends(() -> x.lead(random.nextInt(8)));
            ends(() -> x.ask(random.nextInt(8)));
            ends(() -> x.message(random.nextInt(9), random.nextInt(6)));
        }
    }

    public static void main(String[] args) {
        fits("many proposals", RoomTest::manyProposals);
        fits("proposals and ticks", RoomTest::proposalsAndTicks);
        fits("safests", RoomTest::safests);
        fits("loads", RoomTest::loads);
        fits("objects", RoomTest::objects);
        longAfter();
        Check.end("RoomTest");
    }
}
