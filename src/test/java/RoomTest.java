import java.lang.management.ManagementFactory;

/** All calls of a run live in one room: what a desk makes in its 512 calls stays far below that. */
public final class RoomTest {
    private static final long MOST_BYTES = 200_000;

    private static final Due due = new Due();

    public static void main(String[] args) {
        work(new ProofSheet());
        long before = bytesSoFar();
        work(new ProofSheet());
        long made = bytesSoFar() - before;
        if (made > MOST_BYTES) {
            due.tell("a desk made " + made + " bytes in 512 calls");
        }
        due.end();
    }

    /** Makes as many plates as can be, then goes through the calls that look at the most pages. */
    private static void work(ProofSheet desk) {
        for (int page = 0; page < 64; page++) {
            desk.insert(page, 255, 15);
        }
        for (int font = 0; font < 8; font++) {
            desk.setRight(font, 0, 9999);
        }
        for (int page = 0; page < 64; page++) {
            desk.edit(page, 0, page % 4 == 0 ? 15 : 0);
        }
        for (int page = 0; page < 64; page += 4) {
            for (int color = 0; color < 4; color++) {
                desk.prove(page, color);
                desk.judge(page, color, true);
            }
        }
        for (int sheet = 0; sheet < 16; sheet++) {
            desk.makePlates(sheet);
            desk.print(sheet, 500);
            desk.wear(sheet, 1, 3);
        }
        for (int call = 0; call < 50; call++) {
            desk.setFolds(4, call);
            desk.pageByRule(0, 1, 0, 0);
            desk.pass(100);
            desk.replace(call % 8, (call + 1) % 8);
        }
    }

    private static long bytesSoFar() {
        com.sun.management.ThreadMXBean threads =
                (com.sun.management.ThreadMXBean) ManagementFactory.getThreadMXBean();
        return threads.getThreadAllocatedBytes(Thread.currentThread().getId());
    }
}
