import com.sun.management.ThreadMXBean;
import java.lang.management.ManagementFactory;

/** What a call makes: nothing that grows with the archive, but for the text that it answers. */
public final class RoomTest extends Check {
    private static final int CALLS = 20;
    /** For the few objects of a call: a text, an ACT and its SPAN. */
    private static final int FEW = 400;

    private interface Asked {
        Object of(Rainledger x);
    }

    public static void main(String[] args) {
        asked();
        acted();
        finish();
    }

    private static long made() {
        ThreadMXBean threads = (ThreadMXBean) ManagementFactory.getThreadMXBean();
        return threads.getThreadAllocatedBytes(Thread.currentThread().getId());
    }

    /** Looks at calls behind the first ones, in which rows may have grown that are used again. */
    private static void small(String name, Asked call) {
        about(name);
        Rainledger x = archive();
        call.of(x);
        call.of(x);
        long before = made();
        int told = 0;
        for (int nth = 0; nth < CALLS; nth++) {
            Object answer = call.of(x);
            told += answer instanceof String ? ((String) answer).length() : 0;
        }
        long each = (made() - before) / CALLS;
        is("small", each <= FEW + 4L * told / CALLS ? "small" : each + " bytes a call");
    }

    /** In 422 calls, so that 90 are left. */
    private static Rainledger archive() {
        Rainledger x = new Rainledger();
        for (int nth = 0; nth < 400; nth++) {
            x.row(nth % 4, nth / 4 * 340, nth % 50 * 100, nth % 7 * 10 - 30, 48);
        }
        for (int nth = 0; nth < 20; nth++) {
            x.lend(nth % 4, nth / 4 * 340, 9999 - nth);
        }
        x.join(true);
        x.bar(0, 5, 500);
        return x;
    }

    private static void asked() {
        small("digest", Rainledger::digest);
        small("isSound", Rainledger::isSound);
        small("line", x -> x.line(16000));
        small("quarrels", Rainledger::quarrels);
        small("ranked", x -> x.ranked(0, 0, LAST_HOUR, 2000));
        small("rank", x -> x.rank(0, 0, LAST_HOUR, 2000));
        small("ofSpan", x -> x.ofSpan(0, 0, LAST_HOUR, 5));
        small("mean", x -> x.mean(0, 0, LAST_HOUR));
        small("slide", x -> x.slide(0, 300, 100, true));
        small("top", x -> x.top(15, 0, LAST_HOUR, 6));
        small("records", x -> x.records(1, true));
        small("runs", x -> x.runs(1, 0, LAST_DAY, 0, 1));
        small("degrees", x -> x.degrees(1, 0, LAST_DAY, MIN));
        small("frost", x -> x.frost(1, 2003, MIN, true));
        small("breaks", x -> x.breaks(1, 0, 23, 0, 1));
        small("breakCost", x -> x.breakCost(1, 0, 23, 5, 1));
        small("fill", x -> x.fill(0, 6, 340, 1339, 360));
        small("combination", x -> x.combination(0, 6, 340, 1339, 360));
        small("pairs", x -> x.pairs(0, 1, 0, LAST_HOUR));
        small("rose", x -> x.rose(0, 0, LAST_HOUR, 8));
        small("was", x -> x.was(0, 0, 1));
        small("house", x -> x.house(2));
        small("climate", x -> x.climate(0, 2, 29));
    }

    private static void acted() {
        small("join", x -> x.join(true));
        small("undo", x -> {
            x.withdraw(1, 0);
            return x.undo();
        });
        small("free", x -> {
            x.bar(2, 0, 400);
            x.free(1);
            return x.undo() + x.undo();
        });
    }
}
