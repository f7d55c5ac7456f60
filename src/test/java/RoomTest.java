import java.lang.management.ManagementFactory;

/** The dearest calls make no objects; those that keep a PAPER make a few. All live in one room, so it is counted. */
public final class RoomTest {
    private static final int ROOM_BYTES_A_RUN = 1 << 20;

    public static void main(String[] args) {
        Kit kit = new Kit();
        StringBuilder a = new StringBuilder();
        StringBuilder b = new StringBuilder();
        StringBuilder c = new StringBuilder();
        for (char s = 'a'; s < 'm'; s++) {
            a.append("make ").append(s).append(" by x of egg much 1 long 1;");
            b.append("make ").append(s).append(" by ").append(s < 'g' ? 'y' : 'x').append(" of figs much 1 long 2;");
            c.append("make ").append(s).append(" by ").append(s < 'g' ? 'z' : 'x').append(" of egg much 2 long 1;");
        }
        CakePapers x = Kit.with(a.toString(), b.toString(), c.toString());
        kit.due("join", x.join(0, 1, 2), 6);
        com.sun.management.ThreadMXBean threads = (com.sun.management.ThreadMXBean) ManagementFactory.getThreadMXBean();
        long thread = Thread.currentThread().getId();
        dear(x);
        long before = threads.getThreadAllocatedBytes(thread);
        for (int i = 0; i < 20; i++) {
            dear(x);
        }
        long made = threads.getThreadAllocatedBytes(thread) - before;
        kit.due("dear calls made " + made + " bytes", made < 20000, true);
        before = threads.getThreadAllocatedBytes(thread);
        CakePapers y = new CakePapers();
        for (int i = 0; i < 511; i++) {
            y.paper();
            y.tear(0);
        }
        made = threads.getThreadAllocatedBytes(thread) - before;
        kit.due("a run of papers made " + made + " bytes", made < ROOM_BYTES_A_RUN, true);
        kit.finish("RoomTest");
    }

    private static void dear(CakePapers x) {
        x.join(0, 1, 2);
        x.best(-1);
        x.quarrel(0, 3);
        x.ruin(0, 1, 2, 0);
        x.law(2, 0, 1, 2, 1);
        x.three(0, 1, 2, 1, 2);
        x.leans(0, 1, 3);
        x.does(0, 1, 1023);
        x.same(0, 1);
        x.begun(0, 12, 1, 0);
        x.image(1);
        x.back(1);
    }
}
