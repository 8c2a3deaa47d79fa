/** Promises 3 to 7: gate, start, stop, reset, clean. */
public final class DriveTest {
    public static void main(String[] args) {
        Due due = new Due("DriveTest");
        gate(due);
        start(due);
        stop(due);
        resetForSlip(due);
        resetForSlipWithBuckets(due);
        resetForBoot(due);
        resetForWarmth(due);
        clean(due);
        cleanTooMuch(due);
        due.end();
    }

    private static void gate(Due due) {
        GrainLeg leg = new GrainLeg();
        due.is("gate(false) at first", leg.gate(false), GrainLeg.NONE);
        due.is("gate(true)", leg.gate(true), 0);
        due.is("gate(true) again", leg.gate(true), GrainLeg.NONE);
        due.is("open", leg.count(12), 1);
        due.is("run(2)", leg.run(2), 0);
        due.is("gate(false)", leg.gate(false), 12);
        due.is("closed", leg.count(12), 0);
        due.is("gate(false) again", leg.gate(false), GrainLeg.NONE);
        due.is("acts", leg.count(15), 3);
        GrainLeg tripped = Legs.trippedForWarmth();
        due.is("open a tripped leg's", tripped.gate(true), GrainLeg.NOT_POSSIBLE);
        due.is("close a tripped leg's", tripped.gate(false), GrainLeg.NONE);
        due.is("still closed", tripped.count(12), 0);
        due.is("run(60)", tripped.run(60), 0);
        due.is("reset()", tripped.reset(), 2);
        due.is("open when reset", tripped.gate(true), 0);
    }

    private static void start(Due due) {
        GrainLeg leg = new GrainLeg();
        due.performs(leg, "f34,o,w3", 3);
        due.is("start() with 102 in the boot", leg.start(), 1);
        due.is("runs", leg.count(11), 1);
        due.is("start() again", leg.start(), GrainLeg.NONE);
        due.is("run(1)", leg.run(1), 0);
        due.is("stop()", leg.stop(), 24);
        // 136 came in, 24 are in the buckets at 0, 1 and 2, so 112 are in the boot.
        due.is("start() with 16 on the way up, and 112", leg.start(), 16 + 6);
        GrainLeg tripped = Legs.trippedForSlip();
        int history = tripped.count(15);
        due.is("start a tripped leg", tripped.start(), GrainLeg.NOT_POSSIBLE);
        due.is("it stands", tripped.count(11), 0);
        due.is("no act", tripped.count(15), history);
        due.is("more tension", tripped.set(1, 50), 0);
        due.is("start before the reset", tripped.start(), GrainLeg.NOT_POSSIBLE);
        due.is("reset()", tripped.reset(), 0);
        due.is("start()", tripped.start(), 50);
    }

    private static void stop(Due due) {
        GrainLeg leg = new GrainLeg();
        due.is("stop() at first", leg.stop(), GrainLeg.NONE);
        due.performs(leg, "o,g,w5", 3);
        due.is("slip and cells stay of the latest tick", leg.count(9), 3);
        due.is("stop()", leg.stop(), 12);
        due.is("cells of the latest tick", leg.count(9), 3);
        due.is("it stands", leg.count(11), 0);
        due.is("the gate stays open", leg.count(12), 1);
        due.is("stop() again", leg.stop(), GrainLeg.NONE);
        due.is("run(1)", leg.run(1), 0);
        due.is("no cells where it stands", leg.count(9), 0);
        due.is("no reason", leg.count(13), GrainLeg.NONE);
        due.is("stop() of a tripped leg", Legs.trippedForSlip().stop(), GrainLeg.NONE);
    }

    private static void resetForSlip(Due due) {
        GrainLeg leg = Legs.trippedForSlip();
        due.is("reason", leg.count(13), 0);
        due.is("reset() with load 50, tension 0", leg.reset(), GrainLeg.NOT_POSSIBLE);
        due.is("set(1, 49)", leg.set(1, 49), 0);
        due.is("reset() with tension 49", leg.reset(), GrainLeg.NOT_POSSIBLE);
        due.is("set(1, 50)", leg.set(1, 50), 49);
        int history = leg.count(15);
        due.is("reset() with tension 50", leg.reset(), 0);
        due.is("reason", leg.count(13), GrainLeg.NONE);
        due.is("it stands", leg.count(11), 0);
        due.is("the gate is closed", leg.count(12), 0);
        due.is("reset() again", leg.reset(), GrainLeg.NONE);
        due.is("undo()", leg.undo(), Math.min(4, history + 1) - 1);
        due.is("reason is back", leg.count(13), 0);
    }

    private static void resetForSlipWithBuckets(Due due) {
        GrainLeg leg = new GrainLeg();
        due.performs(leg, "t200,c20,f40,d1,o,g,w6", 7);
        // Twenty each at the places 0 to 5: the boot got 240 and gave 120, so the load is 100 + 10.
        due.performs(leg, "d0,x,t98,w2", 4);
        due.is("slip", leg.count(8), 24);
        due.is("runs", leg.count(11), 1);
        due.is("run(1)", leg.run(1), 0);
        due.is("reason", leg.count(13), 0);
        due.is("set(1, 109)", leg.set(1, 109), 98);
        due.is("reset()", leg.reset(), GrainLeg.NOT_POSSIBLE);
        due.is("clean(2)", leg.clean(2), 118);
        due.is("reset()", leg.reset(), 0);
    }

    private static void resetForBoot(Due due) {
        GrainLeg leg = Legs.trippedForBoot();
        due.is("reason", leg.count(13), 1);
        due.is("reset() with 300", leg.reset(), GrainLeg.NOT_POSSIBLE);
        due.is("clean(150)", leg.clean(150), 150);
        due.is("reset() with 150", leg.reset(), GrainLeg.NOT_POSSIBLE);
        due.is("clean(1)", leg.clean(1), 149);
        due.is("set(1, 0): the tension matters not", leg.set(1, 0), 200);
        due.is("reset() with 149", leg.reset(), 1);
        due.is("reset() again", leg.reset(), GrainLeg.NONE);
    }

    private static void resetForWarmth(Due due) {
        GrainLeg leg = Legs.trippedForWarmth();
        due.is("warmth", leg.count(10), 102);
        due.is("reset() with 102", leg.reset(), GrainLeg.NOT_POSSIBLE);
        due.is("run(26)", leg.run(26), 0);
        due.is("warmth", leg.count(10), 50);
        due.is("reset() with 50", leg.reset(), GrainLeg.NOT_POSSIBLE);
        due.is("run(1)", leg.run(1), 0);
        due.is("reset() with 48", leg.reset(), 2);
        due.is("reset() again", leg.reset(), GrainLeg.NONE);
        GrainLeg odd = new GrainLeg();
        due.performs(odd, "a4,g,w99", 3);
        due.is("99 of warmth do not trip it", odd.count(11), 1);
        due.performs(odd, "a5,w1", 2);
        due.is("warmth", odd.count(10), 103);
        due.is("reason", odd.count(13), 2);
        due.is("run(26)", odd.run(26), 0);
        due.is("reset() with 51", odd.reset(), GrainLeg.NOT_POSSIBLE);
        due.is("run(1)", odd.run(1), 0);
        due.is("reset() with 49", odd.reset(), 2);
    }

    private static void clean(Due due) {
        GrainLeg leg = Legs.trippedForBoot();
        due.is("clean(0)", leg.clean(0), GrainLeg.BAD_VALUE);
        due.is("clean(-1)", leg.clean(-1), GrainLeg.BAD_VALUE);
        due.is("clean(301)", leg.clean(301), GrainLeg.BAD_VALUE);
        due.is("clean(least)", leg.clean(Integer.MIN_VALUE), GrainLeg.BAD_VALUE);
        due.is("clean(most)", leg.clean(Integer.MAX_VALUE), GrainLeg.BAD_VALUE);
        due.is("none by hand", leg.count(5), 0);
        due.is("clean(1)", leg.clean(1), 299);
        due.is("by hand", leg.count(5), 1);
        due.is("undo()", leg.undo(), 3);
        due.is("none by hand", leg.count(5), 0);
        due.is("clean(300)", leg.clean(300), 0);
        due.is("by hand", leg.count(5), 300);
        due.is("clean(1) of nothing", leg.clean(1), GrainLeg.NOT_POSSIBLE);
    }

    private static void cleanTooMuch(Due due) {
        GrainLeg leg = new GrainLeg();
        due.performs(leg, "o,w2", 2);
        due.is("clean(13) of 12", leg.clean(13), GrainLeg.NOT_POSSIBLE);
        due.is("start()", leg.start(), 0);
        due.is("clean(5) where it runs", leg.clean(5), GrainLeg.NOT_POSSIBLE);
        due.is("clean(0) where it runs: BAD_VALUE comes first", leg.clean(0), GrainLeg.BAD_VALUE);
        due.is("stop()", leg.stop(), 0);
        due.is("clean(12) of 12", leg.clean(12), 0);
        due.is("by hand", leg.count(5), 12);
        due.is("fed", leg.count(4), 12);
    }
}
