import com.sun.management.ThreadMXBean;
import java.lang.management.ManagementFactory;

/** What a run makes: a new object and its parts, and nothing in any later call. */
public final class RoomTest {
    /** Far below the room of a run; some six TEXTs with their logs. */
    private static final long MOST_BYTES = 1000000;
    private static final ThreadMXBean THREADS = (ThreadMXBean) ManagementFactory.getThreadMXBean();

    public static void main(String[] args) {
        long id = Thread.currentThread().getId();
        for (int turn = 0; turn < 3; turn++) {
            long before = THREADS.getThreadAllocatedBytes(id);
            Notebookspire x = new Notebookspire();
            for (int i = 0; i < 6; i++) {
                x.make(0, Notebookspire.TEXT);
            }
            long made = THREADS.getThreadAllocatedBytes(id) - before;
            before = THREADS.getThreadAllocatedBytes(id);
            work(x);
            long worked = THREADS.getThreadAllocatedBytes(id) - before;
            Notebookspire y = new Notebookspire();
            y.make(0, Notebookspire.SHEET);
            y.make(0, Notebookspire.TEXT);
            y.make(0, Notebookspire.DECK);
            before = THREADS.getThreadAllocatedBytes(id);
            workOnSheets(y);
            worked += THREADS.getThreadAllocatedBytes(id) - before;
            if (turn == 2) {
                Check.due("12: the object and its parts, " + made + " bytes", made < MOST_BYTES, true);
                Check.due("12: later calls, " + worked + " bytes", worked < 2000, true);
            }
        }
        Check.end("RoomTest");
    }

    private static void work(Notebookspire x) {
        for (int part = 0; part < 6; part++) {
            x.put(0, part, 0, 0);
            x.put(0, part, 1, 1);
            x.send(0, part);
            x.show(0, part, 0, 1);
            x.put(0, part, 1, 200);
            x.comment(0, part, 0, 1, 5);
            x.take(0, part);
            x.undo(0, part);
            x.takeIn(0, (part + 1) % 6, part);
        }
        x.change(0, 0, -1, 4);
        x.version();
        x.version();
        for (int part = 0; part < 6; part++) {
            x.flat(0, part, 0);
            x.shown(1, part);
            x.freeze(0, part);
            x.difference(0, 1, part);
            x.view(0, part);
            x.block(part, 0);
        }
        x.redrawn();
    }

    private static void workOnSheets(Notebookspire x) {
        for (int i = 0; i < 12; i++) {
            x.formula(0, 0, i, i % 5, 0, 11 - i, 0, i * 5 % 12);
            x.rounds();
            x.valueAnew(0, 0, i);
        }
        x.show(0, 0, 0, 11);
        x.slide(0, 2, 0);
        x.box(0, 2, 0, 0, 0, 0);
        x.flatAt(0, 2, 3, 0);
        x.line(3, 1);
        x.line(0, 5);
        x.run(0, 0, 1);
        x.version();
        x.drop(0, 2, 0);
    }
}
