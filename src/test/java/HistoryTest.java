import java.util.Arrays;

/** Promises 13 to 15: undo, keep, restore. */
public final class HistoryTest {
    public static void main(String[] args) {
        Due due = new Due("HistoryTest");
        undoing(due);
        dropping(due);
        wholeStates(due);
        eachAct(due);
        whatIsNoAct(due);
        snapshot(due);
        wholeSnapshot(due);
        due.end();
    }

    private static void undoing(Due due) {
        GrainLeg leg = new GrainLeg();
        due.is("undo() at first", leg.undo(), GrainLeg.NONE);
        due.is("set(0, 4)", leg.set(0, 4), 3);
        due.is("set(0, 5)", leg.set(0, 5), 4);
        due.is("undo()", leg.undo(), 1);
        due.is("drive", leg.count(20), 4);
        due.is("set(0, 6)", leg.set(0, 6), 4);
        due.is("states", leg.count(15), 2);
        due.is("undo()", leg.undo(), 1);
        due.is("drive", leg.count(20), 4);
        due.is("undo()", leg.undo(), 0);
        due.is("drive", leg.count(20), 3);
        due.is("undo()", leg.undo(), GrainLeg.NONE);
        due.is("drive", leg.count(20), 3);
    }

    private static void dropping(Due due) {
        GrainLeg leg = new GrainLeg();
        for (int i = 1; i <= 7; i++) {
            due.is("set(1, " + i + ")", leg.set(1, i), i == 1 ? 60 : i - 1);
            due.is("states", leg.count(15), Math.min(4, i));
        }
        for (int i = 6; i >= 3; i--) {
            due.is("undo()", leg.undo(), i - 3);
            due.is("tension", leg.count(21), i);
        }
        due.is("the older ones are gone", leg.undo(), GrainLeg.NONE);
        for (int i = 20; i < 26; i++) {
            due.is("set(1, " + i + ")", leg.set(1, i), i == 20 ? 3 : i - 1);
        }
        for (int i = 24; i >= 21; i--) {
            due.is("undo()", leg.undo(), i - 21);
            due.is("tension", leg.count(21), i);
        }
        due.is("undo()", leg.undo(), GrainLeg.NONE);
    }

    /** The states before a tick that trips, before a clean and before a reset: all that is told comes back. */
    private static void wholeStates(Due due) {
        GrainLeg leg = new GrainLeg();
        due.performs(leg, "d1,t160,f40,a7,o,g,w7", 7);
        int[] running = Told.all(leg);
        due.is("run(20) trips", leg.run(20), 2 * 4);
        due.is("it stands", leg.count(11), 0);
        int[] tripped = Told.all(leg);
        due.is("clean(200)", leg.clean(200), tripped[0] - 200);
        int[] cleaned = Told.all(leg);
        due.is("reset()", leg.reset(), 1);
        due.is("undo()", leg.undo(), 3);
        due.isTrue("as before the reset", Arrays.equals(cleaned, Told.all(leg)));
        due.is("undo()", leg.undo(), 2);
        due.isTrue("as before the clean", Arrays.equals(tripped, Told.all(leg)));
        due.is("undo()", leg.undo(), 1);
        due.isTrue("as before the run", Arrays.equals(running, Told.all(leg)));
        due.is("run(20) again", leg.run(20), 2 * 4);
        due.isTrue("it goes on as it did", Arrays.equals(tripped, Told.all(leg)));
    }

    /** Each act behind a run(1), whose state would come back if the act recorded an older one. */
    private static void eachAct(Due due) {
        for (int act = 0; act < 9; act++) {
            GrainLeg leg = act == 4 ? Legs.trippedForWarmth() : new GrainLeg();
            leg.gate(act > 0);
            leg.run(act == 4 ? 60 : 20);
            leg.keep();
            if (act == 3) {
                leg.start();
            }
            due.typeAnew(leg, "w1");
            leg.run(1);
            int[] before = Told.all(leg);
            int states = leg.count(15);
            due.isTrue("act " + act + " is done", doAct(leg, act) >= 0);
            due.isTrue("it changed something", !Arrays.equals(before, Told.all(leg)));
            due.is("undo() of act " + act, leg.undo(), Math.min(4, states + 1) - 1);
            due.isTrue("as before act " + act, Arrays.equals(before, Told.all(leg)));
        }
    }

    private static int doAct(GrainLeg leg, int act) {
        switch (act) {
            case 0: return leg.gate(true);
            case 1: return leg.gate(false);
            case 2: return leg.start();
            case 3: return leg.stop();
            case 4: return leg.reset();
            case 5: return leg.clean(9);
            case 6: return leg.run(1);
            case 7: return leg.perform();
            default: return leg.restore();
        }
    }

    private static void whatIsNoAct(Due due) {
        GrainLeg leg = new GrainLeg();
        due.performs(leg, "g,w5", 2);
        due.performs(leg, "d9", -201);
        due.is("stop()", leg.stop(), 0);
        int[] answers = {leg.set(9, 0), leg.set(0, 9), leg.set(0, 3), leg.gate(false), leg.stop(), leg.reset(),
            leg.clean(0), leg.clean(1), leg.run(0), leg.restore(), leg.keep(), leg.tripsIn(), leg.ifTension(9, 9),
            leg.leastTension(9), leg.perform(), leg.clearText(), leg.stopped(0), leg.trip(0, 0), leg.bucket(0),
            leg.sensor(0, 0), leg.count(0)};
        due.is("calls", answers.length, 21);
        due.is("states", leg.count(15), 2);
        due.is("undo()", leg.undo(), 1);
        due.is("runs", leg.count(11), 1);
        due.is("start() where it runs", leg.start(), GrainLeg.NONE);
        due.is("clean(1) where it runs", leg.clean(1), GrainLeg.NOT_POSSIBLE);
        due.is("states", leg.count(15), 1);
        due.is("undo()", leg.undo(), 0);
        due.is("ticks", leg.count(14), 0);
    }

    private static void snapshot(Due due) {
        GrainLeg leg = new GrainLeg();
        due.is("restore() of none", leg.restore(), GrainLeg.NONE);
        due.is("no state", leg.count(15), 0);
        due.is("run(7)", leg.run(7), 0);
        due.is("keep()", leg.keep(), 7);
        due.is("keeping is no act", leg.count(15), 1);
        due.is("run(5)", leg.run(5), 0);
        due.is("restore()", leg.restore(), 7);
        due.is("ticks", leg.count(14), 7);
        due.is("three states", leg.count(15), 3);
        due.is("restore() again, though it is so already", leg.restore(), 7);
        due.is("four states", leg.count(15), 4);
        due.is("undo()", leg.undo(), 3);
        due.is("undo() of the first restore", leg.undo(), 2);
        due.is("ticks", leg.count(14), 12);
        due.is("keep() anew", leg.keep(), 12);
        due.is("undo()", leg.undo(), 1);
        due.is("undo()", leg.undo(), 0);
        due.is("ticks", leg.count(14), 0);
        due.is("the snapshot stays over undo()", leg.restore(), 12);
        due.is("type", leg.type('g'), 1);
        due.is("restore()", leg.restore(), 12);
        due.is("the text is no part of it", leg.count(16), 1);
    }

    private static void wholeSnapshot(Due due) {
        GrainLeg leg = Legs.trippedForSlip();
        due.performs(leg, "g", GrainLeg.NOT_POSSIBLE);
        due.is("keep()", leg.keep(), 8);
        int[] kept = Told.all(leg);
        due.performs(leg, "t99,r,d5,a9,c3,f9,o,g,w40,w60,r", 11);
        due.performs(leg, "d2,w1,r,r,g,g,x,x,o,w3,g,d1", 12);
        due.isTrue("it went far", !Arrays.equals(kept, Told.all(leg)));
        int[] far = Told.all(leg);
        due.is("restore()", leg.restore(), 8);
        due.isTrue("as it was kept", Arrays.equals(kept, Told.all(leg)));
        due.is("set(1, 50)", leg.set(1, 50), 0);
        due.is("reset()", leg.reset(), 0);
        due.is("restore() again", leg.restore(), 8);
        due.isTrue("the snapshot did not change", Arrays.equals(kept, Told.all(leg)));
        due.is("undo()", leg.undo(), 3);
        due.is("undo()", leg.undo(), 2);
        due.is("undo()", leg.undo(), 1);
        due.is("undo() of the first restore", leg.undo(), 0);
        due.isTrue("as it was far on", Arrays.equals(far, Told.all(leg)));
        due.is("the stop is no part of it", leg.stopped(0), 0);
    }
}
