import java.lang.management.ManagementFactory;

/** 512 of the dearest calls make little: all calls of a run live in one room, of which nothing is given back. */
public final class RoomTest {
    private static final int CALLS = 512;
    /** The room is 7.3 million fields and elements; no field takes less than a byte. */
    private static final long MOST_BYTES = 7_300_000;

    private static long made() {
        return ((com.sun.management.ThreadMXBean) ManagementFactory.getThreadMXBean()).getCurrentThreadAllocatedBytes();
    }

    private static Diophantdesk told() {
        Diophantdesk desk = new Diophantdesk();
        desk.unknowns(4);
        desk.row(-17, 20, -8, -20, 999);
        desk.row(-20, -20, -12, 9, -999);
        desk.row(-12, -20, 19, -20, -643);
        desk.row(-20, 11, -9, 1, -283);
        return desk;
    }

    private static boolean isSmall(String what, long bytes) {
        System.out.println(what + ": " + bytes + " bytes");
        return bytes <= MOST_BYTES;
    }

    public static void main(String[] args) {
        told().digest();
        long before = made();
        Diophantdesk desk = told();
        long sum = 0;
        for (int i = 0; i < CALLS / 2; i++) {
            sum += desk.changeRow(i % 4, i % 5, i % 20);
            sum += desk.digest();
        }
        boolean isFine = isSmall(CALLS + " changes and digests", made() - before);
        before = made();
        desk = told();
        for (int i = 0; i < CALLS / 4; i++) {
            sum += desk.form(i % 4).length() + desk.paper().length() + desk.answer().length() + desk.act(i % 8).length();
        }
        isFine &= isSmall(CALLS + " texts", made() - before);
        if (!isFine || sum == 4911) {
            System.exit(1);
        }
    }
}
