import java.lang.management.ManagementFactory;

/** All calls live in one room: a call makes no object, and a new object is small. */
public final class RoomTest {
    private static final int OBJECTS = 200, CALLS = 512, BYTES_AN_OBJECT = 20000;

    private static final com.sun.management.ThreadMXBean THREADS =
            (com.sun.management.ThreadMXBean) ManagementFactory.getThreadMXBean();

    private static long sum;

    private static long bytesMade() {
        return THREADS.getCurrentThreadAllocatedBytes();
    }

    private static void use(RisingRows x, int k) {
        String text = "spread 0 3 1 17;copy 1 0;add 2 3;cut 2 1;row 3 2";
        sum += x.spread(k % 6, k % 4, 1 + k % 90, 97) + x.add(5, k) + x.copies(4, 0) + x.works(3, 0, 1, 1);
        sum += x.feed(text.charAt(k % text.length())) + (k % text.length() == text.length() - 1 ? x.read() : 0);
        sum += x.told(0, 2) + x.worth(0, 0) + x.written(0, k % 40) + x.greater(0, 4) + x.worthier(0, 1);
        sum += x.beginning(0, 1, 1, 1) + x.units(59, 60, 0) + x.see(0, 1, 97) + x.fits(0, 0, 0);
        sum += x.odds(0, 4, 0) + x.mean(0) + x.event(k % 3, 0) + x.after(0, 1) + x.book(0, 1) + x.looked();
        sum += x.image() + x.undo() + x.tape(k % 6, k % 5, 60) + x.item(k % 6, 3, k) + x.peek(k % 6, 3);
        sum += x.shift(0, 0, 0, 1, 20) + x.judge(0, 2, 0) + x.cut(5, 0) + x.begin(5, 1) + x.of(0, 0) + x.count(0);
    }

    private static long bytesOfCalls(RisingRows x) {
        long before = bytesMade();
        for (int k = 0; k < CALLS / 32; k++) {
            use(x, k);
        }
        return bytesMade() - before;
    }

    public static void main(String[] args) {
        bytesOfCalls(new RisingRows());
        long made = 0;
        long calls = 0;
        for (int i = 0; i < OBJECTS; i++) {
            long before = bytesMade();
            RisingRows x = new RisingRows();
            made += bytesMade() - before;
            calls += bytesOfCalls(x);
        }
        System.out.println("an object takes " + made / OBJECTS + " bytes, its calls " + calls / OBJECTS + " (" + sum + ")");
        if (made / OBJECTS > BYTES_AN_OBJECT || calls / OBJECTS > 100) {
            System.out.println("that is too much");
            System.exit(1);
        }
    }
}
