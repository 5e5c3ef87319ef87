import com.sun.management.ThreadMXBean;
import java.lang.management.ManagementFactory;

/**
 * All that one run of calls makes stays in one room of some 600,000 objects and 7.3 million fields and
 * elements. No element is smaller than a byte and no object smaller than sixteen, so that a run that
 * takes fewer bytes than there is room for elements is within both bounds.
 */
public final class RoomTest {
    private static final long ROOM = 7300000;
    private static final int MOST_CALLS = 512;
    private static final ThreadMXBean THREADS = (ThreadMXBean) ManagementFactory.getThreadMXBean();

    private interface Run {
        void calls();
    }

    public static void main(String[] args) {
        within("predicates of 200 bytes", () -> selects("b or ".repeat(39) + "b    ", 10));
        within("predicates of many nots", () -> selects("not ".repeat(19) + "b or " + "not ".repeat(19) + "b    "
                + "or not not not not not not b and b  ", 10));
        within("predicates of 20 bytes", () -> selects("b or b or b or b    ", 1));
        within("errors in predicates", () -> selects("b or b or b or b or ", 1));
        within("names that are refused", RoomTest::names);
        within("reclustering and groups", RoomTest::others);
        Check.end();
    }

    private static void within(String what, Run run) {
        // The first time, the machine itself makes objects, too.
        run.calls();
        long before = THREADS.getCurrentThreadAllocatedBytes();
        run.calls();
        long taken = THREADS.getCurrentThreadAllocatedBytes() - before;
        Check.due(what + ", " + taken + " bytes, is a fifth of the room at most", taken <= ROOM / 5, true);
    }

    /** A table with as many columns and rows as can be; it takes 38 calls to make. */
    private static ColumnTable full() {
        ColumnTable t = new ColumnTable();
        t.setSegmentSize(2);
        for (int i = 0; i < 8; i++) {
            t.feed('b' + i << 24, 0, 0, 0, 0);
            t.trim(1);
            t.addColumn(i % 6);
        }
        for (int i = 0; i < 8; i++) {
            t.setLong(i, 1);
        }
        for (int i = 0; i < 3; i++) {
            t.addRows(100);
        }
        return t;
    }

    private static void selects(String predicate, int feeds) {
        Check.due("bytes of the predicate", predicate.length() <= feeds * 20, true);
        String padded = predicate + " ".repeat(feeds * 20 - predicate.length());
        int[] words = new int[feeds * 5];
        for (int i = 0; i < padded.length(); i++) {
            words[i / 4] = words[i / 4] << 8 | padded.charAt(i);
        }
        ColumnTable t = full();
        for (int made = 38; made + feeds + 1 <= MOST_CALLS; made += feeds + 1) {
            for (int i = 0; i < words.length; i += 5) {
                t.feed(words[i], words[i + 1], words[i + 2], words[i + 3], words[i + 4]);
            }
            try {
                t.select();
            } catch (IllegalArgumentException e) {
                Check.due("kind", t.errorKind(), 1);
            }
        }
    }

    private static void names() {
        ColumnTable t = full();
        for (int made = 38; made + 3 <= MOST_CALLS; made += 3) {
            t.feed(0x61626364, 0x65666768, 0, 0, 0);
            t.trim(8);
            Check.dueThrow("addColumn", IllegalStateException.class, () -> t.addColumn(3));
        }
    }

    private static void others() {
        ColumnTable t = full();
        for (int made = 38; made + 5 <= MOST_CALLS; made += 5) {
            t.selectAll();
            t.recluster(made % 8);
            t.sortSelection(made % 8, true);
            t.group(made % 8, 3);
            t.update(made % 8);
        }
    }
}
