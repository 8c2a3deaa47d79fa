/** Legs in states that several tests begin from. */
final class Legs {
    private Legs() {
    }

    /** Runs, but its belt does not move: slip and boot are then as they are set up. */
    static GrainLeg withBoot(int feed, int ticks, int tension) {
        GrainLeg leg = new GrainLeg();
        leg.set(0, 0);
        leg.set(1, tension);
        leg.set(2, feed);
        leg.gate(true);
        leg.run(ticks);
        leg.gate(false);
        leg.start();
        return leg;
    }

    /** Tripped in its tick 8 for the slip, with 200 in the boot, so that the load is 50. */
    static GrainLeg trippedForSlip() {
        GrainLeg leg = withBoot(40, 5, 0);
        leg.run(3);
        return leg;
    }

    /** Tripped in its tick 9 for the boot, which has 300. */
    static GrainLeg trippedForBoot() {
        GrainLeg leg = withBoot(40, 8, 200);
        leg.run(1);
        return leg;
    }

    /** Empty, and so far aside that it gains 34 of warmth in a tick: it tripped in tick 3, with 102. */
    static GrainLeg trippedForWarmth() {
        GrainLeg leg = rubbing();
        leg.run(3);
        return leg;
    }

    /** Stands, with so much in its boot; drive, tension and capacity are those of a new leg. */
    static GrainLeg standing(int boot) {
        GrainLeg leg = new GrainLeg();
        fill(leg, boot);
        return leg;
    }

    /** Fills the empty boot of a leg that stands. The ticks of it count for the boot's sensor. */
    static void fill(GrainLeg leg, int boot) {
        leg.gate(true);
        feed(leg, 40, boot / 40);
        feed(leg, boot % 40, boot % 40 > 0 ? 1 : 0);
        leg.gate(false);
    }

    private static void feed(GrainLeg leg, int measures, int ticks) {
        if (ticks > 0) {
            leg.set(2, measures);
            leg.run(ticks);
        }
    }

    /** Stands, with so much in its boot, and 20 in each of the buckets at 0 to 5; its tension is 200. */
    static GrainLeg withFullBuckets(int boot) {
        GrainLeg leg = new GrainLeg();
        leg.set(0, 1);
        leg.set(1, 200);
        leg.set(2, 20);
        leg.set(3, 20);
        leg.gate(true);
        leg.start();
        leg.run(6);
        leg.stop();
        fill(leg, boot);
        return leg;
    }

    /** Runs with one cell a tick, no feed and an empty boot; the bucket at 5 has so much, the others nothing. */
    static GrainLeg withBucketBelowHead(int measures) {
        GrainLeg leg = standing(measures);
        leg.set(0, 1);
        leg.set(3, 20);
        leg.start();
        leg.run(6);
        return leg;
    }

    /** Stands, and so many ticks have passed. Its text has 15 commands; few calls are made. */
    static GrainLeg atTick(int ticks) {
        GrainLeg leg = new GrainLeg();
        for (char character : "w99,w99,w99,w99,w99,w99,w99,w99,w99,w99,w99,w99,w99,w99,w99".toCharArray()) {
            leg.type(character);
        }
        for (int i = 0; i < ticks / 1485; i++) {
            leg.perform();
        }
        for (int left = ticks % 1485; left > 0; left -= 200) {
            leg.run(Math.min(200, left));
        }
        return leg;
    }

    static GrainLeg rubbing() {
        GrainLeg leg = new GrainLeg();
        leg.set(0, 6);
        leg.set(4, 9);
        leg.start();
        return leg;
    }
}
