/** Legs in states that several tests begin from. */
final class Legs {
    private Legs() {
    }

    /** Runs, but its belt does not move: slip and boot are then as they are set up. */
    static GrainLeg withBoot(int feed, int ticks, int tension) {
        GrainLeg leg = new GrainLeg();
        leg.set(0, 0);
        leg.set(1, tension);
        leg.set(2, feed);
        leg.gate(true);
        leg.run(ticks);
        leg.gate(false);
        leg.start();
        return leg;
    }

    /** Tripped in its tick 8 for the slip, with 200 in the boot, so that the load is 50. */
    static GrainLeg trippedForSlip() {
        GrainLeg leg = withBoot(40, 5, 0);
        leg.run(3);
        return leg;
    }

    /** Tripped in its tick 9 for the boot, which has 300. */
    static GrainLeg trippedForBoot() {
        GrainLeg leg = withBoot(40, 8, 200);
        leg.run(1);
        return leg;
    }

    /** Empty, and so far aside that it gains 34 of warmth in a tick: it tripped in tick 3, with 102. */
    static GrainLeg trippedForWarmth() {
        GrainLeg leg = rubbing();
        leg.run(3);
        return leg;
    }

    static GrainLeg rubbing() {
        GrainLeg leg = new GrainLeg();
        leg.set(0, 6);
        leg.set(4, 9);
        leg.start();
        return leg;
    }
}
