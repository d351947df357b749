import java.lang.management.ManagementFactory;

/** The room of a run: what the constructor and 512 of the dearest calls make, taken together. */
final class RoomTest {
    private static final long MOST_ELEMENTS = 7_300_000;
    /** No element that the class makes takes less than this, so bytes by it count too many. */
    private static final long BYTES_AN_ELEMENT = 4;

    public static void main(String[] args) {
        long made = 0;
        for (int round = 0; round < 2; round++) {
            long before = bytesMade();
            OssuaryVault x = full();
            dearCalls(x);
            made = bytesMade() - before;
        }
        long elements = made / BYTES_AN_ELEMENT;
        System.out.println("RoomTest: some " + elements + " elements for a run");
        if (elements > MOST_ELEMENTS / 10) {
            System.out.println("that is more than a tenth of the room");
            System.exit(1);
        }
    }

    private static long bytesMade() {
        return ((com.sun.management.ThreadMXBean) ManagementFactory.getThreadMXBean())
                .getThreadAllocatedBytes(Thread.currentThread().getId());
    }

    private static OssuaryVault full() {
        OssuaryVault x = new OssuaryVault();
        for (int key = 0; key < 16; key++) {
            x.noise(key, 240);
            x.store(key);
        }
        return x;
    }

    private static void dearCalls(OssuaryVault x) {
        for (int i = 0; i < 60; i++) {
            x.build(1 + i % 10, 6);
            x.lose(0);
            x.open();
            x.repair();
            x.restore();
            x.digest();
            x.numberOf(3);
            x.present();
        }
    }
}
