import java.lang.management.ManagementFactory;

/**
 * The room that all calls of one run live in (LANGUAGE.md, 12): some 600,000 objects and 7.3 million elements.
 * Both are kept if the calls of one object ask for less bytes than there may be elements.
 */
public final class RoomTest {
    private static final int CALLS = 512;
    private static final long MOST_BYTES = 7_300_000;

    public static void main(String[] args) {
        Due due = new Due("RoomTest");
        for (int kind = 0; kind < 7; kind++) {
            isSmall(due, kind);
        }
        due.end();
    }

    private static void isSmall(Due due, int kind) {
        com.sun.management.ThreadMXBean threads =
            (com.sun.management.ThreadMXBean) ManagementFactory.getThreadMXBean();
        long thread = Thread.currentThread().getId();
        long before = threads.getThreadAllocatedBytes(thread);
        GrainLeg leg = Legs.withFullBuckets(0);
        leg.start();
        for (char character : "g,s,g,s,g,s,g,s,g,s,g,s,g,s,g,s,g,s,g,s,g,s,g,s,g,s,g,s,g,s".toCharArray()) {
            leg.type(character);
        }
        for (int i = 0; i < CALLS - 80; i++) {
            dearCall(leg, kind, i);
        }
        long bytes = threads.getThreadAllocatedBytes(thread) - before;
        due.isTrue("kind " + kind + " asks for " + bytes + " bytes", bytes < MOST_BYTES);
    }

    private static int dearCall(GrainLeg leg, int kind, int number) {
        switch (kind) {
            case 0: return leg.leastTension(100);
            case 1: return leg.tripsIn();
            case 2: return leg.ifTension(200, 200);
            case 3: return leg.run(200);
            case 4: return leg.perform();
            case 5: return leg.set(1, number % 2);
            default: return number % 2 == 0 ? leg.keep() : leg.restore();
        }
    }
}
