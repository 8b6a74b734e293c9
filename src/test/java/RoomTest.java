import com.sun.management.ThreadMXBean;
import java.lang.management.ManagementFactory;
import java.util.function.ObjIntConsumer;

/**
 * What one object takes from the room that all calls of a run share (LANGUAGE.md, rule 12: some 600,000 objects, and
 * 7.3 million fields and elements). It is measured in bytes: a field or an element takes one at least, an object
 * sixteen, so that there are never more of them than that.
 */
public final class RoomTest {
    private static final int CALLS = 512;
    private static final long MOST_BYTES = 1_000_000;
    private static final ThreadMXBean THREADS = (ThreadMXBean) ManagementFactory.getThreadMXBean();
    private static final Checks CHECKS = new Checks("RoomTest");

    public static void main(String[] args) {
        takes("a new object", 0, (m, call) -> { });
        takes("clear", CALLS, (m, call) -> m.clear());
        takes("a record that comes and goes", CALLS, (m, call) -> {
            if (call % 2 == 0) {
                m.addRecord(1, 1);
            } else {
                m.removeRecord(0);
            }
        });
        takes("empty templates", CALLS, (m, call) -> m.setTemplate());
        for (String text : new String[] {"abcd", "[0:]", "[0&1&2&3&4&n>1:]", "[g0:[!1:[2:[3:]]]]a", "a".repeat(120),
            "[0" + "&0".repeat(58) + ":]", "{0}".repeat(40), "<a|b>".repeat(24), "a".repeat(119) + "]"}) {
            takes("templates " + text, CALLS, (m, call) -> template(m, text, call));
        }
        takes("fields", CALLS, (m, call) -> {
            if (call == 0) {
                m.addRecord(1, 1);
            } else if (call % 2 == 1) {
                m.append(0x61626364);
            } else {
                m.setField(0, call % 5);
            }
        });
        takes("undo", CALLS, (m, call) -> {
            if (call % 16 < 8) {
                m.setKeys(call % 32);
            } else {
                m.undo();
            }
        });
        takes("snapshots", CALLS, (m, call) -> {
            if (call % 2 == 0) {
                m.snapshot();
            } else {
                m.restore();
            }
        });
        takes("refused calls", CALLS, (m, call) -> refused(() -> m.addRecord(-1, 0)));
        runs();
        CHECKS.end();
    }

    /** Types a text four characters a call, and makes it the template when all of it is typed. */
    private static void template(MailMerge m, String text, int call) {
        int step = call % (text.length() / 4 + 1 + (text.length() % 4 == 0 ? 0 : 1));
        if (step * 4 < text.length()) {
            m.append(Desk.packed(text, step * 4));
        } else {
            refused(m::setTemplate);
        }
    }

    private static void refused(Runnable call) {
        try {
            call.run();
        } catch (IllegalArgumentException e) {
            // What it takes from the room is what counts here.
        }
    }

    /** Runs, and what is like them, make nothing at all, however full the object is. */
    private static void runs() {
        MailMerge m = new MailMerge();
        for (int i = 0; i < 20; i++) {
            Desk.add(m, i % 10, i, "abcdefghijkl", "Company", "1 Low St", i % 2 == 0 ? "Ulm" : "");
        }
        Desk.template(m, "{0}@[3:{3*}][n>9:many <a|b>].");
        m.setKeys(8);
        m.setLimit(200);
        m.run();
        long before = allocated();
        for (int i = 0; i < 50; i++) {
            m.run();
            m.isOrderFree();
            m.preview(i % 20);
            m.kept(i % 20);
        }
        CHECKS.same("bytes of 50 runs and looks, at most 10,000", true, allocated() - before <= 10_000);
    }

    private static void takes(String what, int calls, ObjIntConsumer<MailMerge> call) {
        long before = allocated();
        MailMerge m = new MailMerge();
        for (int i = 0; i < calls; i++) {
            call.accept(m, i);
        }
        long taken = allocated() - before;
        CHECKS.same(what + ": " + taken + " bytes, at most " + MOST_BYTES, true, taken <= MOST_BYTES);
    }

    private static long allocated() {
        return THREADS.getThreadAllocatedBytes(Thread.currentThread().getId());
    }
}
